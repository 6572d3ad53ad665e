section PL4
set_option maxHeartbeats 4000000 in
set_option maxRecDepth 100000 in
theorem pL_isFrameSo_p (l : Launch) (G : zG) (sz : Nat) (ad : zAd) {D : zDc} {N M : zN} {n : Nat} (h : J n D N) (hn : n < 8800) {a9 c9 g9 st : Nat} (hx9 : a9 < 8) (hy9 : c9 < 16) (ht9 : g9 < 2) (hs1 : 1 ≤ st) (hs9 : st ≤ 10)  (hf : frV N a9 c9 g9 st = (0, M)) (hC : frC N M) (hR : frP N M a9 c9 g9 0) : zMi l yL_isFrameSo wsL_isFrameSo ({ frames := 6, cells := 0, slots := 0, locals := 147 } : Room) [.ref ad.2.2.1, .int (nI a9), .int (nI c9), .int (nI g9), .int (nI st)] G (wCl G ad D) (fun (v : Int32) (D' : zDc) => v = 1 ∧ J n D' N) (fun D' => wCl G ad D') sz 0 0 := by
  refine zMi_of (cc := cL_isFrameSo) (maxL := 19) (ret := (some .boolean)) (by decide) rfl (Nat.le_of_ble_eq_true rfl) ?_
  intro p e s m args below meth c A ls hx hb hr hml hts hown hlocks hnm hK hP hD hAe hS hA hl hsz
  have hown : s.vm.findClass RL = some m.cls := hown
  have hl : lv_has ls 19 [(0, .ref ad.2.2.1), (1, .int (nI a9)), (2, .int (nI c9)), (3, .int (nI g9)), (4, .int (nI st))] := hl
  obtain ⟨⟨b0, b1, b2, b3, b4, b5, b6, b7, b8, b9, b10⟩, ba, bd, bl⟩ := id h.2.1
  have hU := Ud_0 h
  obtain ⟨f8, f0, f2, f1, f10, fg⟩ := hC
  have hba := ba c9 hy9
  have hbd := bd c9 hy9
  obtain ⟨-, ea, r1, r7, r6, r3, r4, r5, rd⟩ := hR
  have rM1 : rem M := rem_1 r6
  have rM : reV M = nI c9 := (reV_r rM1).trans (congrArg nI r3)
  have hM5 : hoV M = 0 := (hoV_r rM1).trans r5
  have hhb : hoV N ≤ n := by
    unfold hoV
    split <;> omega
  have tM : tkV M = nI 61 := (tkV_r rM1).trans (congrArg nI (by omega))
  refine lv_aload_n hx hb dL_isFrameSo_0 rfl (lv_at hl 0 rfl) ?_
  refine lv_iload_n hx hb dL_isFrameSo_1 rfl (lv_at hl 1 rfl) ?_
  refine lv_iload_n hx hb dL_isFrameSo_2 rfl (lv_at hl 2 rfl) ?_
  refine lv_iload_n hx hb dL_isFrameSo_3 rfl (lv_at hl 3 rfl) ?_
  refine lv_iload hx hb dL_isFrameSo_4 (lv_at hl 4 rfl) ?_
  refine z_callM (val := 0) (va_runV (As := [.int (nI a9), .int (nI c9), .int (nI g9), .int (nI st)]) (rest := []) ⟨hx, hb, hml, hown, hts⟩ (pC_ifFrame' l G s.heap.size ad h hU (a9 := a9) (c9 := c9) (g9 := g9) (st := st) hx9 hy9 ht9 hs1 hs9 (V := 0) (congrArg Prod.fst hf)) (cwV 4 hts gL_isFrameSo_X5_ifFrame rfl rfl rfl (by decide +kernel) ⟨(Nat.le_of_ble_eq_true rfl), (Nat.le_of_ble_eq_true rfl)⟩) (zV (ci := 5) (q0 := 0) hK hP hD rfl (wCl_0 G ad D)) rfl rfl hl.1 rfl (lv_room (Nat.le_of_ble_eq_true rfl)) dL_isFrameSo_6 ⟨(Nat.le_of_ble_eq_true rfl), (Nat.le_of_ble_eq_true rfl)⟩) hP hD hS hA (fun D_1 H locs k_1 hP hD hS => ?_)
  refine lv_istore (lv' := [(5, .int 0), (0, .ref ad.2.2.1), (1, .int (nI a9)), (2, .int (nI c9)), (3, .int (nI g9)), (4, .int (nI st))]) hx hb dL_isFrameSo_9 hl (by decide) rfl (fun ls hl => ?_)
  refine lv_aload_n hx hb dL_isFrameSo_11 rfl (lv_at hl 1 rfl) ?_
  refine z_callG (val := nI (N 1)) (va_runV (As := []) (rest := []) ⟨hx, hb, hml, hown, hts⟩ (pC_gain l G H.size ad k_1.1) (cwV 0 hts gL_isFrameSo_X5_gain rfl rfl rfl (by decide +kernel) ⟨(Nat.le_of_ble_eq_true rfl), (Nat.le_of_ble_eq_true rfl)⟩) (zV (ci := 5) (q0 := 0) hK hP hD rfl (wCl_0 G ad D_1)) rfl rfl hl.1 rfl (lv_room (Nat.le_of_ble_eq_true rfl)) dL_isFrameSo_12 ⟨(Nat.le_of_ble_eq_true rfl), (Nat.le_of_ble_eq_true rfl)⟩) hP hD hS hA (fun H locs hP hD hS => ?_)
  refine lv_istore (lv' := [(6, .int (nI (N 1))), (5, .int 0), (0, .ref ad.2.2.1), (1, .int (nI a9)), (2, .int (nI c9)), (3, .int (nI g9)), (4, .int (nI st))]) hx hb dL_isFrameSo_15 hl (by decide) rfl (fun ls hl => ?_)
  refine lv_aload_n hx hb dL_isFrameSo_17 rfl (lv_at hl 2 rfl) ?_
  refine z_callG (val := nI (N 8)) (va_runV (As := []) (rest := []) ⟨hx, hb, hml, hown, hts⟩ (pC_received l G H.size ad k_1.1) (cwV 0 hts gL_isFrameSo_X5_received rfl rfl rfl (by decide +kernel) ⟨(Nat.le_of_ble_eq_true rfl), (Nat.le_of_ble_eq_true rfl)⟩) (zV (ci := 5) (q0 := 0) hK hP hD rfl (wCl_0 G ad D_1)) rfl rfl hl.1 rfl (lv_room (Nat.le_of_ble_eq_true rfl)) dL_isFrameSo_18 ⟨(Nat.le_of_ble_eq_true rfl), (Nat.le_of_ble_eq_true rfl)⟩) hP hD hS hA (fun H locs hP hD hS => ?_)
  refine lv_istore (lv' := [(7, .int (nI (N 8))), (6, .int (nI (N 1))), (5, .int 0), (0, .ref ad.2.2.1), (1, .int (nI a9)), (2, .int (nI c9)), (3, .int (nI g9)), (4, .int (nI st))]) hx hb dL_isFrameSo_21 hl (by decide) rfl (fun ls hl => ?_)
  refine lv_aload_n hx hb dL_isFrameSo_23 rfl (lv_at hl 3 rfl) ?_
  refine z_callG (val := nI (N 7)) (va_runV (As := []) (rest := []) ⟨hx, hb, hml, hown, hts⟩ (pC_presses l G H.size ad k_1.1) (cwV 0 hts gL_isFrameSo_X5_presses rfl rfl rfl (by decide +kernel) ⟨(Nat.le_of_ble_eq_true rfl), (Nat.le_of_ble_eq_true rfl)⟩) (zV (ci := 5) (q0 := 0) hK hP hD rfl (wCl_0 G ad D_1)) rfl rfl hl.1 rfl (lv_room (Nat.le_of_ble_eq_true rfl)) dL_isFrameSo_24 ⟨(Nat.le_of_ble_eq_true rfl), (Nat.le_of_ble_eq_true rfl)⟩) hP hD hS hA (fun H locs hP hD hS => ?_)
  refine lv_istore (lv' := [(8, .int (nI (N 7))), (7, .int (nI (N 8))), (6, .int (nI (N 1))), (5, .int 0), (0, .ref ad.2.2.1), (1, .int (nI a9)), (2, .int (nI c9)), (3, .int (nI g9)), (4, .int (nI st))]) hx hb dL_isFrameSo_27 hl (by decide) rfl (fun ls hl => ?_)
  refine lv_aload_n hx hb dL_isFrameSo_29 rfl (lv_at hl 4 rfl) ?_
  refine lv_iload_n hx hb dL_isFrameSo_30 rfl (lv_at hl 6 rfl) ?_
  refine z_callG (val := nI (N (32 + c9))) (va_runV (As := [.int (nI c9)]) (rest := []) ⟨hx, hb, hml, hown, hts⟩ (pC_done l G H.size ad k_1.1 (k9 := c9) hy9) (cwV 1 hts gL_isFrameSo_X5_done rfl rfl rfl (by decide +kernel) ⟨(Nat.le_of_ble_eq_true rfl), (Nat.le_of_ble_eq_true rfl)⟩) (zV (ci := 5) (q0 := 0) hK hP hD rfl (wCl_0 G ad D_1)) rfl rfl hl.1 rfl (lv_room (Nat.le_of_ble_eq_true rfl)) dL_isFrameSo_31 ⟨(Nat.le_of_ble_eq_true rfl), (Nat.le_of_ble_eq_true rfl)⟩) hP hD hS hA (fun H locs hP hD hS => ?_)
  refine lv_istore (lv' := [(9, .int (nI (N (32 + c9)))), (8, .int (nI (N 7))), (7, .int (nI (N 8))), (6, .int (nI (N 1))), (5, .int 0), (0, .ref ad.2.2.1), (1, .int (nI a9)), (2, .int (nI c9)), (3, .int (nI g9)), (4, .int (nI st))]) hx hb dL_isFrameSo_34 hl (by decide) rfl (fun ls hl => ?_)
  refine lv_aload_n hx hb dL_isFrameSo_36 rfl (lv_at hl 5 rfl) ?_
  refine lv_iload_n hx hb dL_isFrameSo_37 rfl (lv_at hl 7 rfl) ?_
  refine z_callG (val := nI (N (16 + c9))) (va_runV (As := [.int (nI c9)]) (rest := []) ⟨hx, hb, hml, hown, hts⟩ (pC_action l G H.size ad k_1.1 (k9 := c9) hy9) (cwV 1 hts gL_isFrameSo_X5_action rfl rfl rfl (by decide +kernel) ⟨(Nat.le_of_ble_eq_true rfl), (Nat.le_of_ble_eq_true rfl)⟩) (zV (ci := 5) (q0 := 0) hK hP hD rfl (wCl_0 G ad D_1)) rfl rfl hl.1 rfl (lv_room (Nat.le_of_ble_eq_true rfl)) dL_isFrameSo_38 ⟨(Nat.le_of_ble_eq_true rfl), (Nat.le_of_ble_eq_true rfl)⟩) hP hD hS hA (fun H locs hP hD hS => ?_)
  refine lv_istore (lv' := [(10, .int (nI (N (16 + c9)))), (9, .int (nI (N (32 + c9)))), (8, .int (nI (N 7))), (7, .int (nI (N 8))), (6, .int (nI (N 1))), (5, .int 0), (0, .ref ad.2.2.1), (1, .int (nI a9)), (2, .int (nI c9)), (3, .int (nI g9)), (4, .int (nI st))]) hx hb dL_isFrameSo_41 hl (by decide) rfl (fun ls hl => ?_)
  refine lv_aload_n hx hb dL_isFrameSo_43 rfl (lv_at hl 6 rfl) ?_
  refine z_callG (val := nI (hoV N)) (va_runV (As := []) (rest := []) ⟨hx, hb, hml, hown, hts⟩ (pC_holds' l G H.size ad k_1.1 (show (if rem N then nI (N 5) else 0) = nI (hoV N) by unfold hoV; split <;> rfl)) (cwV 0 hts gL_isFrameSo_X5_holds rfl rfl rfl (by decide +kernel) ⟨(Nat.le_of_ble_eq_true rfl), (Nat.le_of_ble_eq_true rfl)⟩) (zV (ci := 5) (q0 := 0) hK hP hD rfl (wCl_0 G ad D_1)) rfl rfl hl.1 rfl (lv_room (Nat.le_of_ble_eq_true rfl)) dL_isFrameSo_44 ⟨(Nat.le_of_ble_eq_true rfl), (Nat.le_of_ble_eq_true rfl)⟩) hP hD hS hA (fun H locs hP hD hS => ?_)
  refine lv_istore (lv' := [(11, .int (nI (hoV N))), (10, .int (nI (N (16 + c9)))), (9, .int (nI (N (32 + c9)))), (8, .int (nI (N 7))), (7, .int (nI (N 8))), (6, .int (nI (N 1))), (5, .int 0), (0, .ref ad.2.2.1), (1, .int (nI a9)), (2, .int (nI c9)), (3, .int (nI g9)), (4, .int (nI st))]) hx hb dL_isFrameSo_47 hl (by decide) rfl (fun ls hl => ?_)
  refine lv_aload_n hx hb dL_isFrameSo_49 rfl (lv_at hl 7 rfl) ?_
  refine z_callG (val := (reV N)) (va_runV (As := []) (rest := []) ⟨hx, hb, hml, hown, hts⟩ (pC_remembered' l G H.size ad k_1.1 (V := reV N) rfl) (cwV 0 hts gL_isFrameSo_X5_remembered rfl rfl rfl (by decide +kernel) ⟨(Nat.le_of_ble_eq_true rfl), (Nat.le_of_ble_eq_true rfl)⟩) (zV (ci := 5) (q0 := 0) hK hP hD rfl (wCl_0 G ad D_1)) rfl rfl hl.1 rfl (lv_room (Nat.le_of_ble_eq_true rfl)) dL_isFrameSo_50 ⟨(Nat.le_of_ble_eq_true rfl), (Nat.le_of_ble_eq_true rfl)⟩) hP hD hS hA (fun H locs hP hD hS => ?_)
  refine lv_istore (lv' := [(12, .int (reV N)), (11, .int (nI (hoV N))), (10, .int (nI (N (16 + c9)))), (9, .int (nI (N (32 + c9)))), (8, .int (nI (N 7))), (7, .int (nI (N 8))), (6, .int (nI (N 1))), (5, .int 0), (0, .ref ad.2.2.1), (1, .int (nI a9)), (2, .int (nI c9)), (3, .int (nI g9)), (4, .int (nI st))]) hx hb dL_isFrameSo_53 hl (by decide) rfl (fun ls hl => ?_)
  refine lv_aload_n hx hb dL_isFrameSo_55 rfl (lv_at hl 8 rfl) ?_
  refine z_callG (val := nI (rfs N)) (va_runS (As := [.ref ad.2.2.1]) (rest := []) ⟨hx, hb, hml, hown, hts⟩ (pL_refusals l G H.size ad k_1.1) (va_cwS 1 hts gL_isFrameSo_L_refusals rfl rfl rfl (by decide +kernel) ⟨(Nat.le_of_ble_eq_true rfl), (Nat.le_of_ble_eq_true rfl)⟩) (zS hK hP hD) rfl rfl hl.1 rfl (lv_room (Nat.le_of_ble_eq_true rfl)) dL_isFrameSo_56 ⟨(Nat.le_of_ble_eq_true rfl), (Nat.le_of_ble_eq_true rfl)⟩) hP hD hS hA (fun H locs hP hD hS => ?_)
  refine lv_istore (lv' := [(13, .int (nI (rfs N))), (12, .int (reV N)), (11, .int (nI (hoV N))), (10, .int (nI (N (16 + c9)))), (9, .int (nI (N (32 + c9)))), (8, .int (nI (N 7))), (7, .int (nI (N 8))), (6, .int (nI (N 1))), (5, .int 0), (0, .ref ad.2.2.1), (1, .int (nI a9)), (2, .int (nI c9)), (3, .int (nI g9)), (4, .int (nI st))]) hx hb dL_isFrameSo_59 hl (by decide) rfl (fun ls hl => ?_)
  refine lv_aload_n hx hb dL_isFrameSo_61 rfl (lv_at hl 9 rfl) ?_
  refine lv_iload_n hx hb dL_isFrameSo_62 rfl (lv_at hl 10 rfl) ?_
  refine lv_iload_n hx hb dL_isFrameSo_63 rfl (lv_at hl 11 rfl) ?_
  refine lv_iload_n hx hb dL_isFrameSo_64 rfl (lv_at hl 12 rfl) ?_
  refine lv_iload hx hb dL_isFrameSo_65 (lv_at hl 13 rfl) ?_
  refine z_callM (val := 0) (va_runV (As := [.int (nI a9), .int (nI c9), .int (nI g9), .int (nI st)]) (rest := []) ⟨hx, hb, hml, hown, hts⟩ (pC_frame' l G H.size ad k_1.1 (by omega) k_1.2 (by omega) hx9 hy9 ht9 hs1 hs9 (V := 0) (M := M) hf) (cwV 4 hts gL_isFrameSo_X5_frame rfl rfl rfl (by decide +kernel) ⟨(Nat.le_of_ble_eq_true rfl), (Nat.le_of_ble_eq_true rfl)⟩) (zV (ci := 5) (q0 := 0) hK hP hD rfl (wCl_0 G ad D_1)) rfl rfl hl.1 rfl (lv_room (Nat.le_of_ble_eq_true rfl)) dL_isFrameSo_67 ⟨(Nat.le_of_ble_eq_true rfl), (Nat.le_of_ble_eq_true rfl)⟩) hP hD hS hA (fun D_10 H locs k_10 hP hD hS => ?_)
  refine lv_istore (lv' := [(14, .int 0), (13, .int (nI (rfs N))), (12, .int (reV N)), (11, .int (nI (hoV N))), (10, .int (nI (N (16 + c9)))), (9, .int (nI (N (32 + c9)))), (8, .int (nI (N 7))), (7, .int (nI (N 8))), (6, .int (nI (N 1))), (5, .int 0), (0, .ref ad.2.2.1), (1, .int (nI a9)), (2, .int (nI c9)), (3, .int (nI g9)), (4, .int (nI st))]) hx hb dL_isFrameSo_70 hl (by decide) rfl (fun ls hl => ?_)
  refine lv_aload_n hx hb dL_isFrameSo_72 rfl (lv_at hl 10 rfl) ?_
  refine z_callG (val := nI (M 1)) (va_runV (As := []) (rest := []) ⟨hx, hb, hml, hown, hts⟩ (pC_gain l G H.size ad k_10.1) (cwV 0 hts gL_isFrameSo_X5_gain rfl rfl rfl (by decide +kernel) ⟨(Nat.le_of_ble_eq_true rfl), (Nat.le_of_ble_eq_true rfl)⟩) (zV (ci := 5) (q0 := 0) hK hP hD rfl (wCl_0 G ad D_10)) rfl rfl hl.1 rfl (lv_room (Nat.le_of_ble_eq_true rfl)) dL_isFrameSo_73 ⟨(Nat.le_of_ble_eq_true rfl), (Nat.le_of_ble_eq_true rfl)⟩) hP hD hS hA (fun H locs hP hD hS => ?_)
  refine lv_iload hx hb dL_isFrameSo_76 (lv_at hl 8 rfl) ?_
  refine lv_isub hx hb dL_isFrameSo_78 ?_
  refine lv_istore (lv' := [(15, .int (nI (M 1) - nI (N 1))), (14, .int 0), (13, .int (nI (rfs N))), (12, .int (reV N)), (11, .int (nI (hoV N))), (10, .int (nI (N (16 + c9)))), (9, .int (nI (N (32 + c9)))), (8, .int (nI (N 7))), (7, .int (nI (N 8))), (6, .int (nI (N 1))), (5, .int 0), (0, .ref ad.2.2.1), (1, .int (nI a9)), (2, .int (nI c9)), (3, .int (nI g9)), (4, .int (nI st))]) hx hb dL_isFrameSo_79 hl (by decide) rfl (fun ls hl => ?_)
  refine lv_iload hx hb dL_isFrameSo_81 (lv_at hl 9 rfl) ?_
  refine lv_bipush (v := 10) hx hb dL_isFrameSo_83 (by decide) ?_
  refine lv_aload_n hx hb dL_isFrameSo_85 rfl (lv_at hl 11 rfl) ?_
  refine z_callG (val := nI (M 0)) (va_runV (As := []) (rest := [.int 10, .int (nI (N 1))]) ⟨hx, hb, hml, hown, hts⟩ (pC_glare l G H.size ad k_10.1) (cwV 0 hts gL_isFrameSo_X5_glare rfl rfl rfl (by decide +kernel) ⟨(Nat.le_of_ble_eq_true rfl), (Nat.le_of_ble_eq_true rfl)⟩) (zV (ci := 5) (q0 := 0) hK hP hD rfl (wCl_0 G ad D_10)) rfl rfl hl.1 rfl (lv_room (Nat.le_of_ble_eq_true rfl)) dL_isFrameSo_86 ⟨(Nat.le_of_ble_eq_true rfl), (Nat.le_of_ble_eq_true rfl)⟩) hP hD hS hA (fun H locs hP hD hS => ?_)
  refine lv_isub hx hb dL_isFrameSo_89 ?_
  refine z_top (show (10 : Int32) - nI (M 0) = nI (10 - (M 0)) from pk_sub (a := 10) (b := (M 0)) (by omega)) ?_
  refine lv_icmp_le (tgt := 97) hx hb dL_isFrameSo_90 (by decide) (fun c_13 => ?_) (fun c_13 => ?_)
  · have hle : N 1 ≤ 10 - N 0 := by
      have := (z_le (a := N 1) (b := 10 - M 0) rfl rfl (by omega) (by omega)).mp c_13
      omega
    have hfg := fg hle
    refine lv_iconst (v := 0) hx hb dL_isFrameSo_97 (by decide) ?_
    refine lv_istore (lv' := [(16, .int 0), (15, .int (nI (M 1) - nI (N 1))), (14, .int 0), (13, .int (nI (rfs N))), (12, .int (reV N)), (11, .int (nI (hoV N))), (10, .int (nI (N (16 + c9)))), (9, .int (nI (N (32 + c9)))), (8, .int (nI (N 7))), (7, .int (nI (N 8))), (6, .int (nI (N 1))), (5, .int 0), (0, .ref ad.2.2.1), (1, .int (nI a9)), (2, .int (nI c9)), (3, .int (nI g9)), (4, .int (nI st))]) hx hb dL_isFrameSo_98 hl (by decide) rfl (fun ls hl => ?_)
    refine lv_iload hx hb dL_isFrameSo_100 (lv_at hl 2 rfl) ?_
    refine lv_iload hx hb dL_isFrameSo_102 (lv_at hl 11 rfl) ?_
    refine lv_icmp_ne (tgt := 197) hx hb dL_isFrameSo_104 (by decide) (fun c_14 => absurd ((t_eq (show (0 : Int32).toInt = 0 by decide) (show (0 : Int32).toInt = 0 by decide)).mpr (by omega)) c_14) (fun c_14 => ?_)
    refine lv_aload_n hx hb dL_isFrameSo_107 rfl (lv_at hl 12 rfl) ?_
    refine z_callG (val := nI (M 8)) (va_runV (As := []) (rest := []) ⟨hx, hb, hml, hown, hts⟩ (pC_received l G H.size ad k_10.1) (cwV 0 hts gL_isFrameSo_X5_received rfl rfl rfl (by decide +kernel) ⟨(Nat.le_of_ble_eq_true rfl), (Nat.le_of_ble_eq_true rfl)⟩) (zV (ci := 5) (q0 := 0) hK hP hD rfl (wCl_0 G ad D_10)) rfl rfl hl.1 rfl (lv_room (Nat.le_of_ble_eq_true rfl)) dL_isFrameSo_108 ⟨(Nat.le_of_ble_eq_true rfl), (Nat.le_of_ble_eq_true rfl)⟩) hP hD hS hA (fun H locs hP hD hS => ?_)
    refine lv_iload hx hb dL_isFrameSo_111 (lv_at hl 9 rfl) ?_
    refine lv_iconst (v := 1) hx hb dL_isFrameSo_113 (by decide) ?_
    refine lv_iadd hx hb dL_isFrameSo_114 ?_
    refine z_top (show nI (N 8) + (1 : Int32) = nI ((N 8) + 1) from nI_add (N 8) 1) ?_
    refine lv_icmp_ne (tgt := 197) hx hb dL_isFrameSo_115 (by decide) (fun c_16 => absurd ((t_eq (nI_toInt (n := (M 8)) (by omega)) (nI_toInt (n := ((N 8) + 1)) (by omega))).mpr (by omega)) c_16) (fun c_16 => ?_)
    refine lv_aload_n hx hb dL_isFrameSo_118 rfl (lv_at hl 12 rfl) ?_
    refine z_callG (val := nI (M 7)) (va_runV (As := []) (rest := []) ⟨hx, hb, hml, hown, hts⟩ (pC_presses l G H.size ad k_10.1) (cwV 0 hts gL_isFrameSo_X5_presses rfl rfl rfl (by decide +kernel) ⟨(Nat.le_of_ble_eq_true rfl), (Nat.le_of_ble_eq_true rfl)⟩) (zV (ci := 5) (q0 := 0) hK hP hD rfl (wCl_0 G ad D_10)) rfl rfl hl.1 rfl (lv_room (Nat.le_of_ble_eq_true rfl)) dL_isFrameSo_119 ⟨(Nat.le_of_ble_eq_true rfl), (Nat.le_of_ble_eq_true rfl)⟩) hP hD hS hA (fun H locs hP hD hS => ?_)
    refine lv_iload hx hb dL_isFrameSo_122 (lv_at hl 8 rfl) ?_
    refine lv_iload hx hb dL_isFrameSo_124 (lv_at hl 2 rfl) ?_
    refine lv_if_ne (tgt := 133) hx hb dL_isFrameSo_126 (by decide) (fun c_18 => absurd ((t_eq (show (0 : Int32).toInt = 0 by decide) (show (0 : Int32).toInt = 0 by decide)).mpr (by omega)) c_18) (fun c_18 => ?_)
    refine lv_iconst (v := 1) hx hb dL_isFrameSo_129 (by decide) ?_
    refine lv_goto (tgt := 134) hx hb dL_isFrameSo_130 (by decide) ?_
    refine lv_iadd hx hb dL_isFrameSo_134 ?_
    refine z_top (show nI (N 7) + (1 : Int32) = nI ((N 7) + 1) from nI_add (N 7) 1) ?_
    refine lv_icmp_ne (tgt := 197) hx hb dL_isFrameSo_135 (by decide) (fun c_19 => absurd ((t_eq (nI_toInt (n := (M 7)) (by omega)) (nI_toInt (n := ((N 7) + 1)) (by omega))).mpr (by omega)) c_19) (fun c_19 => ?_)
    refine lv_aload_n hx hb dL_isFrameSo_138 rfl (lv_at hl 12 rfl) ?_
    refine z_callG (val := nI (rfs M)) (va_runS (As := [.ref ad.2.2.1]) (rest := []) ⟨hx, hb, hml, hown, hts⟩ (pL_refusals l G H.size ad k_10.1) (va_cwS 1 hts gL_isFrameSo_L_refusals rfl rfl rfl (by decide +kernel) ⟨(Nat.le_of_ble_eq_true rfl), (Nat.le_of_ble_eq_true rfl)⟩) (zS hK hP hD) rfl rfl hl.1 rfl (lv_room (Nat.le_of_ble_eq_true rfl)) dL_isFrameSo_139 ⟨(Nat.le_of_ble_eq_true rfl), (Nat.le_of_ble_eq_true rfl)⟩) hP hD hS hA (fun H locs hP hD hS => ?_)
    refine lv_iload hx hb dL_isFrameSo_142 (lv_at hl 3 rfl) ?_
    refine lv_iload hx hb dL_isFrameSo_144 (lv_at hl 2 rfl) ?_
    refine lv_if_le (tgt := 153) hx hb dL_isFrameSo_146 (by decide) (fun c_21 => ?_) (fun c_21 => absurd ((t_le (show (0 : Int32).toInt = 0 by decide) (show (0 : Int32).toInt = 0 by decide)).mpr (by omega)) c_21)
    refine lv_iconst (v := 0) hx hb dL_isFrameSo_153 (by decide) ?_
    refine lv_iadd hx hb dL_isFrameSo_154 ?_
    refine z_top (show nI (rfs N) + (0 : Int32) = nI ((rfs N) + 0) from nI_add (rfs N) 0) ?_
    refine lv_icmp_ne (tgt := 197) hx hb dL_isFrameSo_155 (by decide) (fun c_22 => absurd ((t_eq (nI_toInt (n := (rfs M)) (by omega)) (nI_toInt (n := ((rfs N) + 0)) (by omega))).mpr (by omega)) c_22) (fun c_22 => ?_)
    refine lv_aload_n hx hb dL_isFrameSo_158 rfl (lv_at hl 12 rfl) ?_
    refine z_callG (val := nI (M 1)) (va_runV (As := []) (rest := []) ⟨hx, hb, hml, hown, hts⟩ (pC_gain l G H.size ad k_10.1) (cwV 0 hts gL_isFrameSo_X5_gain rfl rfl rfl (by decide +kernel) ⟨(Nat.le_of_ble_eq_true rfl), (Nat.le_of_ble_eq_true rfl)⟩) (zV (ci := 5) (q0 := 0) hK hP hD rfl (wCl_0 G ad D_10)) rfl rfl hl.1 rfl (lv_room (Nat.le_of_ble_eq_true rfl)) dL_isFrameSo_159 ⟨(Nat.le_of_ble_eq_true rfl), (Nat.le_of_ble_eq_true rfl)⟩) hP hD hS hA (fun H locs hP hD hS => ?_)
    refine lv_iconst (v := 1) hx hb dL_isFrameSo_162 (by decide) ?_
    refine lv_icmp_lt (tgt := 197) hx hb dL_isFrameSo_163 (by decide) (fun c_24 => absurd ((t_lt (nI_toInt (n := (M 1)) (by omega)) (show (1 : Int32).toInt = 1 by decide)).mp c_24) (by omega)) (fun c_24 => ?_)
    refine lv_aload_n hx hb dL_isFrameSo_166 rfl (lv_at hl 12 rfl) ?_
    refine z_callG (val := nI (M 1)) (va_runV (As := []) (rest := []) ⟨hx, hb, hml, hown, hts⟩ (pC_gain l G H.size ad k_10.1) (cwV 0 hts gL_isFrameSo_X5_gain rfl rfl rfl (by decide +kernel) ⟨(Nat.le_of_ble_eq_true rfl), (Nat.le_of_ble_eq_true rfl)⟩) (zV (ci := 5) (q0 := 0) hK hP hD rfl (wCl_0 G ad D_10)) rfl rfl hl.1 rfl (lv_room (Nat.le_of_ble_eq_true rfl)) dL_isFrameSo_167 ⟨(Nat.le_of_ble_eq_true rfl), (Nat.le_of_ble_eq_true rfl)⟩) hP hD hS hA (fun H locs hP hD hS => ?_)
    refine lv_bipush (v := 10) hx hb dL_isFrameSo_170 (by decide) ?_
    refine lv_icmp_gt (tgt := 197) hx hb dL_isFrameSo_172 (by decide) (fun c_26 => absurd ((t_lt (show (10 : Int32).toInt = 10 by decide) (nI_toInt (n := (M 1)) (by omega))).mp c_26) (by omega)) (fun c_26 => ?_)
    refine lv_iload hx hb dL_isFrameSo_175 (lv_at hl 0 rfl) ?_
    refine lv_if_ne (tgt := 193) hx hb dL_isFrameSo_177 (by decide) (fun c_27 => absurd ((t_eq (show (0 : Int32).toInt = 0 by decide) (show (0 : Int32).toInt = 0 by decide)).mpr (by omega)) c_27) (fun c_27 => ?_)
    refine lv_iload hx hb dL_isFrameSo_180 (lv_at hl 1 rfl) ?_
    refine lv_iconst (v := 2) hx hb dL_isFrameSo_182 (by decide) ?_
    refine lv_icmp_ge (tgt := 197) hx hb dL_isFrameSo_183 (by decide) (fun c_28 => absurd c_28 (by_ok (M 1) (by omega) (N 1) (by omega) (by omega) (by omega)).1) (fun c_28 => ?_)
    refine lv_iload hx hb dL_isFrameSo_186 (lv_at hl 1 rfl) ?_
    refine lv_bipush (v := -2) hx hb dL_isFrameSo_188 (by decide) ?_
    refine lv_icmp_le (tgt := 197) hx hb dL_isFrameSo_190 (by decide) (fun c_29 => absurd c_29 (by_ok (M 1) (by omega) (N 1) (by omega) (by omega) (by omega)).2) (fun c_29 => ?_)
    refine lv_iconst (v := 1) hx hb dL_isFrameSo_193 (by decide) ?_
    refine lv_goto (tgt := 198) hx hb dL_isFrameSo_194 (by decide) ?_
    refine lv_istore (lv' := [(17, .int 1), (16, .int 0), (15, .int (nI (M 1) - nI (N 1))), (14, .int 0), (13, .int (nI (rfs N))), (12, .int (reV N)), (11, .int (nI (hoV N))), (10, .int (nI (N (16 + c9)))), (9, .int (nI (N (32 + c9)))), (8, .int (nI (N 7))), (7, .int (nI (N 8))), (6, .int (nI (N 1))), (5, .int 0), (0, .ref ad.2.2.1), (1, .int (nI a9)), (2, .int (nI c9)), (3, .int (nI g9)), (4, .int (nI st))]) hx hb dL_isFrameSo_198 hl (by decide) rfl (fun ls hl => ?_)
    refine lv_iload hx hb dL_isFrameSo_200 (lv_at hl 3 rfl) ?_
    refine lv_if_ne (tgt := 262) hx hb dL_isFrameSo_202 (by decide) (fun c_30 => absurd ((t_eq (show (0 : Int32).toInt = 0 by decide) (show (0 : Int32).toInt = 0 by decide)).mpr (by omega)) c_30) (fun c_30 => ?_)
    refine lv_iload hx hb dL_isFrameSo_205 (lv_at hl 0 rfl) ?_
    refine lv_if_eq (tgt := 259) hx hb dL_isFrameSo_207 (by decide) (fun c_31 => absurd ((t_eq (show (1 : Int32).toInt = 1 by decide) (show (0 : Int32).toInt = 0 by decide)).mp c_31) (by omega)) (fun c_31 => ?_)
    refine lv_aload_n hx hb dL_isFrameSo_210 rfl (lv_at hl 13 rfl) ?_
    refine z_callG (val := (reV M)) (va_runV (As := []) (rest := []) ⟨hx, hb, hml, hown, hts⟩ (pC_remembered' l G H.size ad k_10.1 (V := reV M) rfl) (cwV 0 hts gL_isFrameSo_X5_remembered rfl rfl rfl (by decide +kernel) ⟨(Nat.le_of_ble_eq_true rfl), (Nat.le_of_ble_eq_true rfl)⟩) (zV (ci := 5) (q0 := 0) hK hP hD rfl (wCl_0 G ad D_10)) rfl rfl hl.1 rfl (lv_room (Nat.le_of_ble_eq_true rfl)) dL_isFrameSo_211 ⟨(Nat.le_of_ble_eq_true rfl), (Nat.le_of_ble_eq_true rfl)⟩) hP hD hS hA (fun H locs hP hD hS => ?_)
    refine lv_iload_n hx hb dL_isFrameSo_214 rfl (lv_at hl 15 rfl) ?_
    refine lv_icmp_ne (tgt := 259) hx hb dL_isFrameSo_215 (by decide) (fun c_33 => absurd rM c_33) (fun c_33 => ?_)
    refine lv_aload_n hx hb dL_isFrameSo_218 rfl (lv_at hl 13 rfl) ?_
    refine z_callG (val := nI (hoV M)) (va_runV (As := []) (rest := []) ⟨hx, hb, hml, hown, hts⟩ (pC_holds' l G H.size ad k_10.1 (show (if rem M then nI (M 5) else 0) = nI (hoV M) by unfold hoV; split <;> rfl)) (cwV 0 hts gL_isFrameSo_X5_holds rfl rfl rfl (by decide +kernel) ⟨(Nat.le_of_ble_eq_true rfl), (Nat.le_of_ble_eq_true rfl)⟩) (zV (ci := 5) (q0 := 0) hK hP hD rfl (wCl_0 G ad D_10)) rfl rfl hl.1 rfl (lv_room (Nat.le_of_ble_eq_true rfl)) dL_isFrameSo_219 ⟨(Nat.le_of_ble_eq_true rfl), (Nat.le_of_ble_eq_true rfl)⟩) hP hD hS hA (fun H locs hP hD hS => ?_)
    refine lv_if_ne (tgt := 259) hx hb dL_isFrameSo_222 (by decide) (fun c_35 => absurd ((t_eq (nI_toInt (n := (hoV M)) (by omega)) (show (0 : Int32).toInt = 0 by decide)).mpr (by omega)) c_35) (fun c_35 => ?_)
    refine lv_aload_n hx hb dL_isFrameSo_225 rfl (lv_at hl 13 rfl) ?_
    refine z_callG (val := nI 61) (va_runV (As := []) (rest := []) ⟨hx, hb, hml, hown, hts⟩ (pC_ticksToForget' l G H.size ad k_10.1 (V := nI 61) tM) (cwV 0 hts gL_isFrameSo_X5_ticksToForget rfl rfl rfl (by decide +kernel) ⟨(Nat.le_of_ble_eq_true rfl), (Nat.le_of_ble_eq_true rfl)⟩) (zV (ci := 5) (q0 := 0) hK hP hD rfl (wCl_0 G ad D_10)) rfl rfl hl.1 rfl (lv_room (Nat.le_of_ble_eq_true rfl)) dL_isFrameSo_226 ⟨(Nat.le_of_ble_eq_true rfl), (Nat.le_of_ble_eq_true rfl)⟩) hP hD hS hA (fun H locs hP hD hS => ?_)
    refine lv_bipush (v := 61) hx hb dL_isFrameSo_229 (by decide) ?_
    refine lv_icmp_ne (tgt := 259) hx hb dL_isFrameSo_231 (by decide) (fun c_37 => absurd ((t_eq (show (61 : Int32).toInt = 61 by decide) (show (61 : Int32).toInt = 61 by decide)).mpr (by omega)) c_37) (fun c_37 => ?_)
    refine lv_aload_n hx hb dL_isFrameSo_234 rfl (lv_at hl 13 rfl) ?_
    refine lv_iload_n hx hb dL_isFrameSo_235 rfl (lv_at hl 15 rfl) ?_
    refine z_callG (val := nI (M (32 + c9))) (va_runV (As := [.int (nI c9)]) (rest := []) ⟨hx, hb, hml, hown, hts⟩ (pC_done l G H.size ad k_10.1 (k9 := c9) hy9) (cwV 1 hts gL_isFrameSo_X5_done rfl rfl rfl (by decide +kernel) ⟨(Nat.le_of_ble_eq_true rfl), (Nat.le_of_ble_eq_true rfl)⟩) (zV (ci := 5) (q0 := 0) hK hP hD rfl (wCl_0 G ad D_10)) rfl rfl hl.1 rfl (lv_room (Nat.le_of_ble_eq_true rfl)) dL_isFrameSo_236 ⟨(Nat.le_of_ble_eq_true rfl), (Nat.le_of_ble_eq_true rfl)⟩) hP hD hS hA (fun H locs hP hD hS => ?_)
    refine lv_iload hx hb dL_isFrameSo_239 (lv_at hl 8 rfl) ?_
    refine lv_iload hx hb dL_isFrameSo_241 (lv_at hl 7 rfl) ?_
    refine lv_if_le (tgt := 250) hx hb dL_isFrameSo_243 (by decide) (fun c_39 => ?_) (fun c_39 => ?_)
    · have zz : N (16 + c9) = 0 := Nat.le_zero.mp ((z_le (b := 0) rfl rfl (by omega) (by omega)).mp c_39)
      rw [if_pos zz] at rd
      refine lv_iconst (v := 0) hx hb dL_isFrameSo_250 (by decide) ?_
      refine lv_iadd hx hb dL_isFrameSo_251 ?_
      refine z_top (show nI (N (32 + c9)) + (0 : Int32) = nI ((N (32 + c9)) + 0) from nI_add (N (32 + c9)) 0) ?_
      refine lv_icmp_ne (tgt := 259) hx hb dL_isFrameSo_252 (by decide) (fun c_40 => absurd ((t_eq (nI_toInt (n := (M (32 + c9))) (by omega)) (nI_toInt (n := ((N (32 + c9)) + 0)) (by omega))).mpr (by omega)) c_40) (fun c_40 => ?_)
      refine lv_iconst (v := 1) hx hb dL_isFrameSo_255 (by decide) ?_
      refine lv_goto (tgt := 260) hx hb dL_isFrameSo_256 (by decide) ?_
      refine lv_istore (lv' := [(17, .int 1), (16, .int 0), (15, .int (nI (M 1) - nI (N 1))), (14, .int 0), (13, .int (nI (rfs N))), (12, .int (reV N)), (11, .int (nI (hoV N))), (10, .int (nI (N (16 + c9)))), (9, .int (nI (N (32 + c9)))), (8, .int (nI (N 7))), (7, .int (nI (N 8))), (6, .int (nI (N 1))), (5, .int 0), (0, .ref ad.2.2.1), (1, .int (nI a9)), (2, .int (nI c9)), (3, .int (nI g9)), (4, .int (nI st))]) hx hb dL_isFrameSo_260 hl (by decide) rfl (fun ls hl => ?_)
      refine lv_iload hx hb dL_isFrameSo_262 (lv_at hl 3 rfl) ?_
      refine lv_iconst (v := -1) hx hb dL_isFrameSo_264 (by decide) ?_
      refine lv_icmp_ne (tgt := 345) hx hb dL_isFrameSo_265 (by decide) (fun c_41 => ?_) (fun c_41 => absurd ((t_eq (show (0 : Int32).toInt = 0 by decide) (show (-1 : Int32).toInt = -1 by decide)).mp c_41) (by omega))
      refine lv_iload hx hb dL_isFrameSo_345 (lv_at hl 3 rfl) ?_
      refine lv_if_le (tgt := 397) hx hb dL_isFrameSo_347 (by decide) (fun c_42 => ?_) (fun c_42 => absurd ((t_le (show (0 : Int32).toInt = 0 by decide) (show (0 : Int32).toInt = 0 by decide)).mpr (by omega)) c_42)
      refine lv_iload hx hb dL_isFrameSo_397 (lv_at hl 3 rfl) ?_
      refine lv_if_gt (tgt := 457) hx hb dL_isFrameSo_399 (by decide) (fun c_43 => absurd ((t_lt (show (0 : Int32).toInt = 0 by decide) (show (0 : Int32).toInt = 0 by decide)).mp c_43) (by omega)) (fun c_43 => ?_)
      refine lv_aload_n hx hb dL_isFrameSo_402 rfl (lv_at hl 13 rfl) ?_
      refine z_callG (val := nI (M 0)) (va_runV (As := []) (rest := []) ⟨hx, hb, hml, hown, hts⟩ (pC_glare l G H.size ad k_10.1) (cwV 0 hts gL_isFrameSo_X5_glare rfl rfl rfl (by decide +kernel) ⟨(Nat.le_of_ble_eq_true rfl), (Nat.le_of_ble_eq_true rfl)⟩) (zV (ci := 5) (q0 := 0) hK hP hD rfl (wCl_0 G ad D_10)) rfl rfl hl.1 rfl (lv_room (Nat.le_of_ble_eq_true rfl)) dL_isFrameSo_403 ⟨(Nat.le_of_ble_eq_true rfl), (Nat.le_of_ble_eq_true rfl)⟩) hP hD hS hA (fun H locs hP hD hS => ?_)
      refine lv_if_ne (tgt := 457) hx hb dL_isFrameSo_406 (by decide) (fun c_45 => ?_) (fun c_45 => ?_)
      · refine lv_aload_n hx hb dL_isFrameSo_457 rfl (lv_at hl 13 rfl) ?_
        refine z_callA (va_runV (As := []) (rest := []) ⟨hx, hb, hml, hown, hts⟩ (pC_undo' l G H.size ad k_10.1 k_10.2) (cwV 0 hts gL_isFrameSo_X5_undo rfl rfl rfl (by decide +kernel) ⟨(Nat.le_of_ble_eq_true rfl), (Nat.le_of_ble_eq_true rfl)⟩) (zV (ci := 5) (q0 := 0) hK hP hD rfl (wCl_0 G ad D_10)) rfl rfl hl.1 rfl (lv_room (Nat.le_of_ble_eq_true rfl)) dL_isFrameSo_458 ⟨(Nat.le_of_ble_eq_true rfl), (Nat.le_of_ble_eq_true rfl)⟩) hP hD hS hA (fun v_46 D_46 H locs k_46 hP hD hS => ?_)
        obtain ⟨⟨j9, j1, rfl⟩, ⟨m9, M9, k9J⟩, k9U⟩ := k_46
        have hJ9 := Ud_J k9U k9J
        refine lv_istore (lv' := [(18, .int (nI j9)), (17, .int 1), (16, .int 0), (15, .int (nI (M 1) - nI (N 1))), (14, .int 0), (13, .int (nI (rfs N))), (12, .int (reV N)), (11, .int (nI (hoV N))), (10, .int (nI (N (16 + c9)))), (9, .int (nI (N (32 + c9)))), (8, .int (nI (N 7))), (7, .int (nI (N 8))), (6, .int (nI (N 1))), (5, .int 0), (0, .ref ad.2.2.1), (1, .int (nI a9)), (2, .int (nI c9)), (3, .int (nI g9)), (4, .int (nI st))]) hx hb dL_isFrameSo_461 hl (by decide) rfl (fun ls hl => ?_)
        refine lv_iload hx hb dL_isFrameSo_463 (lv_at hl 1 rfl) ?_
        refine lv_if_eq (tgt := 504) hx hb dL_isFrameSo_465 (by decide) (fun c_47 => absurd ((t_eq (show (1 : Int32).toInt = 1 by decide) (show (0 : Int32).toInt = 0 by decide)).mp c_47) (by omega)) (fun c_47 => ?_)
        refine lv_iload hx hb dL_isFrameSo_468 (lv_at hl 0 rfl) ?_
        refine lv_if_lt (tgt := 504) hx hb dL_isFrameSo_470 (by decide) (fun c_48 => absurd ((t_lt (nI_toInt (n := j9) (by omega)) (show (0 : Int32).toInt = 0 by decide)).mp c_48) (by omega)) (fun c_48 => ?_)
        refine lv_aload_n hx hb dL_isFrameSo_473 rfl (lv_at hl 14 rfl) ?_
        refine z_callG (val := nI (N 8)) (va_runV (As := []) (rest := []) ⟨hx, hb, hml, hown, hts⟩ (pC_received l G H.size ad hJ9) (cwV 0 hts gL_isFrameSo_X5_received rfl rfl rfl (by decide +kernel) ⟨(Nat.le_of_ble_eq_true rfl), (Nat.le_of_ble_eq_true rfl)⟩) (zV (ci := 5) (q0 := 0) hK hP hD rfl (wCl_0 G ad D_46)) rfl rfl hl.1 rfl (lv_room (Nat.le_of_ble_eq_true rfl)) dL_isFrameSo_474 ⟨(Nat.le_of_ble_eq_true rfl), (Nat.le_of_ble_eq_true rfl)⟩) hP hD hS hA (fun H locs hP hD hS => ?_)
        refine lv_iload hx hb dL_isFrameSo_477 (lv_at hl 11 rfl) ?_
        refine lv_icmp_ne (tgt := 504) hx hb dL_isFrameSo_479 (by decide) (fun c_50 => absurd ((t_eq (nI_toInt (n := (N 8)) (by omega)) (nI_toInt (n := (N 8)) (by omega))).mpr (by omega)) c_50) (fun c_50 => ?_)
        refine lv_aload_n hx hb dL_isFrameSo_482 rfl (lv_at hl 14 rfl) ?_
        refine z_callG (val := nI (N 1)) (va_runV (As := []) (rest := []) ⟨hx, hb, hml, hown, hts⟩ (pC_gain l G H.size ad hJ9) (cwV 0 hts gL_isFrameSo_X5_gain rfl rfl rfl (by decide +kernel) ⟨(Nat.le_of_ble_eq_true rfl), (Nat.le_of_ble_eq_true rfl)⟩) (zV (ci := 5) (q0 := 0) hK hP hD rfl (wCl_0 G ad D_46)) rfl rfl hl.1 rfl (lv_room (Nat.le_of_ble_eq_true rfl)) dL_isFrameSo_483 ⟨(Nat.le_of_ble_eq_true rfl), (Nat.le_of_ble_eq_true rfl)⟩) hP hD hS hA (fun H locs hP hD hS => ?_)
        refine lv_iload hx hb dL_isFrameSo_486 (lv_at hl 12 rfl) ?_
        refine lv_icmp_ne (tgt := 504) hx hb dL_isFrameSo_488 (by decide) (fun c_52 => absurd ((t_eq (nI_toInt (n := (N 1)) (by omega)) (nI_toInt (n := (N 1)) (by omega))).mpr (by omega)) c_52) (fun c_52 => ?_)
        refine lv_aload_n hx hb dL_isFrameSo_491 rfl (lv_at hl 14 rfl) ?_
        refine z_callG (val := nI (hoV N)) (va_runV (As := []) (rest := []) ⟨hx, hb, hml, hown, hts⟩ (pC_holds' l G H.size ad hJ9 (show (if rem N then nI (N 5) else 0) = nI (hoV N) by unfold hoV; split <;> rfl)) (cwV 0 hts gL_isFrameSo_X5_holds rfl rfl rfl (by decide +kernel) ⟨(Nat.le_of_ble_eq_true rfl), (Nat.le_of_ble_eq_true rfl)⟩) (zV (ci := 5) (q0 := 0) hK hP hD rfl (wCl_0 G ad D_46)) rfl rfl hl.1 rfl (lv_room (Nat.le_of_ble_eq_true rfl)) dL_isFrameSo_492 ⟨(Nat.le_of_ble_eq_true rfl), (Nat.le_of_ble_eq_true rfl)⟩) hP hD hS hA (fun H locs hP hD hS => ?_)
        refine lv_iload hx hb dL_isFrameSo_495 (lv_at hl 7 rfl) ?_
        refine lv_icmp_ne (tgt := 504) hx hb dL_isFrameSo_497 (by decide) (fun c_54 => absurd ((t_eq (nI_toInt (n := (hoV N)) (by omega)) (nI_toInt (n := (hoV N)) (by omega))).mpr (by omega)) c_54) (fun c_54 => ?_)
        refine lv_iconst (v := 1) hx hb dL_isFrameSo_500 (by decide) ?_
        refine lv_goto (tgt := 505) hx hb dL_isFrameSo_501 (by decide) ?_
        exact z_iret hx hb hr rfl hlocks D_46 hP hD hS (Nat.le_of_ble_eq_true rfl) (Nat.le_of_ble_eq_true rfl) dL_isFrameSo_505 ⟨rfl, hJ9⟩
      · refine lv_aload_n hx hb dL_isFrameSo_409 rfl (lv_at hl 13 rfl) ?_
        refine z_callG (val := nI (M 1)) (va_runV (As := []) (rest := []) ⟨hx, hb, hml, hown, hts⟩ (pC_gain l G H.size ad k_10.1) (cwV 0 hts gL_isFrameSo_X5_gain rfl rfl rfl (by decide +kernel) ⟨(Nat.le_of_ble_eq_true rfl), (Nat.le_of_ble_eq_true rfl)⟩) (zV (ci := 5) (q0 := 0) hK hP hD rfl (wCl_0 G ad D_10)) rfl rfl hl.1 rfl (lv_room (Nat.le_of_ble_eq_true rfl)) dL_isFrameSo_410 ⟨(Nat.le_of_ble_eq_true rfl), (Nat.le_of_ble_eq_true rfl)⟩) hP hD hS hA (fun H locs hP hD hS => ?_)
        refine lv_bipush (v := 10) hx hb dL_isFrameSo_413 (by decide) ?_
        refine lv_icmp_ne (tgt := 457) hx hb dL_isFrameSo_415 (by decide) (fun c_56 => ?_) (fun c_56 => ?_)
        · refine lv_aload_n hx hb dL_isFrameSo_457 rfl (lv_at hl 13 rfl) ?_
          refine z_callA (va_runV (As := []) (rest := []) ⟨hx, hb, hml, hown, hts⟩ (pC_undo' l G H.size ad k_10.1 k_10.2) (cwV 0 hts gL_isFrameSo_X5_undo rfl rfl rfl (by decide +kernel) ⟨(Nat.le_of_ble_eq_true rfl), (Nat.le_of_ble_eq_true rfl)⟩) (zV (ci := 5) (q0 := 0) hK hP hD rfl (wCl_0 G ad D_10)) rfl rfl hl.1 rfl (lv_room (Nat.le_of_ble_eq_true rfl)) dL_isFrameSo_458 ⟨(Nat.le_of_ble_eq_true rfl), (Nat.le_of_ble_eq_true rfl)⟩) hP hD hS hA (fun v_57 D_57 H locs k_57 hP hD hS => ?_)
          obtain ⟨⟨j9, j1, rfl⟩, ⟨m9, M9, k9J⟩, k9U⟩ := k_57
          have hJ9 := Ud_J k9U k9J
          refine lv_istore (lv' := [(18, .int (nI j9)), (17, .int 1), (16, .int 0), (15, .int (nI (M 1) - nI (N 1))), (14, .int 0), (13, .int (nI (rfs N))), (12, .int (reV N)), (11, .int (nI (hoV N))), (10, .int (nI (N (16 + c9)))), (9, .int (nI (N (32 + c9)))), (8, .int (nI (N 7))), (7, .int (nI (N 8))), (6, .int (nI (N 1))), (5, .int 0), (0, .ref ad.2.2.1), (1, .int (nI a9)), (2, .int (nI c9)), (3, .int (nI g9)), (4, .int (nI st))]) hx hb dL_isFrameSo_461 hl (by decide) rfl (fun ls hl => ?_)
          refine lv_iload hx hb dL_isFrameSo_463 (lv_at hl 1 rfl) ?_
          refine lv_if_eq (tgt := 504) hx hb dL_isFrameSo_465 (by decide) (fun c_58 => absurd ((t_eq (show (1 : Int32).toInt = 1 by decide) (show (0 : Int32).toInt = 0 by decide)).mp c_58) (by omega)) (fun c_58 => ?_)
          refine lv_iload hx hb dL_isFrameSo_468 (lv_at hl 0 rfl) ?_
          refine lv_if_lt (tgt := 504) hx hb dL_isFrameSo_470 (by decide) (fun c_59 => absurd ((t_lt (nI_toInt (n := j9) (by omega)) (show (0 : Int32).toInt = 0 by decide)).mp c_59) (by omega)) (fun c_59 => ?_)
          refine lv_aload_n hx hb dL_isFrameSo_473 rfl (lv_at hl 14 rfl) ?_
          refine z_callG (val := nI (N 8)) (va_runV (As := []) (rest := []) ⟨hx, hb, hml, hown, hts⟩ (pC_received l G H.size ad hJ9) (cwV 0 hts gL_isFrameSo_X5_received rfl rfl rfl (by decide +kernel) ⟨(Nat.le_of_ble_eq_true rfl), (Nat.le_of_ble_eq_true rfl)⟩) (zV (ci := 5) (q0 := 0) hK hP hD rfl (wCl_0 G ad D_57)) rfl rfl hl.1 rfl (lv_room (Nat.le_of_ble_eq_true rfl)) dL_isFrameSo_474 ⟨(Nat.le_of_ble_eq_true rfl), (Nat.le_of_ble_eq_true rfl)⟩) hP hD hS hA (fun H locs hP hD hS => ?_)
          refine lv_iload hx hb dL_isFrameSo_477 (lv_at hl 11 rfl) ?_
          refine lv_icmp_ne (tgt := 504) hx hb dL_isFrameSo_479 (by decide) (fun c_61 => absurd ((t_eq (nI_toInt (n := (N 8)) (by omega)) (nI_toInt (n := (N 8)) (by omega))).mpr (by omega)) c_61) (fun c_61 => ?_)
          refine lv_aload_n hx hb dL_isFrameSo_482 rfl (lv_at hl 14 rfl) ?_
          refine z_callG (val := nI (N 1)) (va_runV (As := []) (rest := []) ⟨hx, hb, hml, hown, hts⟩ (pC_gain l G H.size ad hJ9) (cwV 0 hts gL_isFrameSo_X5_gain rfl rfl rfl (by decide +kernel) ⟨(Nat.le_of_ble_eq_true rfl), (Nat.le_of_ble_eq_true rfl)⟩) (zV (ci := 5) (q0 := 0) hK hP hD rfl (wCl_0 G ad D_57)) rfl rfl hl.1 rfl (lv_room (Nat.le_of_ble_eq_true rfl)) dL_isFrameSo_483 ⟨(Nat.le_of_ble_eq_true rfl), (Nat.le_of_ble_eq_true rfl)⟩) hP hD hS hA (fun H locs hP hD hS => ?_)
          refine lv_iload hx hb dL_isFrameSo_486 (lv_at hl 12 rfl) ?_
          refine lv_icmp_ne (tgt := 504) hx hb dL_isFrameSo_488 (by decide) (fun c_63 => absurd ((t_eq (nI_toInt (n := (N 1)) (by omega)) (nI_toInt (n := (N 1)) (by omega))).mpr (by omega)) c_63) (fun c_63 => ?_)
          refine lv_aload_n hx hb dL_isFrameSo_491 rfl (lv_at hl 14 rfl) ?_
          refine z_callG (val := nI (hoV N)) (va_runV (As := []) (rest := []) ⟨hx, hb, hml, hown, hts⟩ (pC_holds' l G H.size ad hJ9 (show (if rem N then nI (N 5) else 0) = nI (hoV N) by unfold hoV; split <;> rfl)) (cwV 0 hts gL_isFrameSo_X5_holds rfl rfl rfl (by decide +kernel) ⟨(Nat.le_of_ble_eq_true rfl), (Nat.le_of_ble_eq_true rfl)⟩) (zV (ci := 5) (q0 := 0) hK hP hD rfl (wCl_0 G ad D_57)) rfl rfl hl.1 rfl (lv_room (Nat.le_of_ble_eq_true rfl)) dL_isFrameSo_492 ⟨(Nat.le_of_ble_eq_true rfl), (Nat.le_of_ble_eq_true rfl)⟩) hP hD hS hA (fun H locs hP hD hS => ?_)
          refine lv_iload hx hb dL_isFrameSo_495 (lv_at hl 7 rfl) ?_
          refine lv_icmp_ne (tgt := 504) hx hb dL_isFrameSo_497 (by decide) (fun c_65 => absurd ((t_eq (nI_toInt (n := (hoV N)) (by omega)) (nI_toInt (n := (hoV N)) (by omega))).mpr (by omega)) c_65) (fun c_65 => ?_)
          refine lv_iconst (v := 1) hx hb dL_isFrameSo_500 (by decide) ?_
          refine lv_goto (tgt := 505) hx hb dL_isFrameSo_501 (by decide) ?_
          exact z_iret hx hb hr rfl hlocks D_57 hP hD hS (Nat.le_of_ble_eq_true rfl) (Nat.le_of_ble_eq_true rfl) dL_isFrameSo_505 ⟨rfl, hJ9⟩
        · refine lv_iload hx hb dL_isFrameSo_418 (lv_at hl 0 rfl) ?_
          refine lv_if_eq (tgt := 454) hx hb dL_isFrameSo_420 (by decide) (fun c_66 => absurd ((t_eq (show (1 : Int32).toInt = 1 by decide) (show (0 : Int32).toInt = 0 by decide)).mp c_66) (by omega)) (fun c_66 => ?_)
          have z0 : M 0 = 0 := (z_eq (b := 0) rfl rfl (by omega) (by omega)).mp c_45
          have z1 : M 1 = 10 := (z_eq (b := 10) rfl rfl (by omega) (by omega)).mp c_56
          have nb : ¬ bad M 10 := by
            unfold bad
            rw [z0, z1]
            omega
          have i1 : (frV M a9 c9 g9 10).1 = -1 := by rw [fr_two hx9 hy9 ht9 nb (by omega), if_pos ⟨rM1, by omega, by omega⟩]
          have i2 : (frV M a9 c9 (1 - g9) 10).1 = 0 := by rw [fr_two hx9 hy9 (show 1 - g9 < 2 by omega) nb (by omega), if_neg (fun z => absurd z.2.2 (by omega))]
          refine lv_aload_n hx hb dL_isFrameSo_423 rfl (lv_at hl 13 rfl) ?_
          refine lv_iload_n hx hb dL_isFrameSo_424 rfl (lv_at hl 14 rfl) ?_
          refine lv_iload_n hx hb dL_isFrameSo_425 rfl (lv_at hl 15 rfl) ?_
          refine lv_iload_n hx hb dL_isFrameSo_426 rfl (lv_at hl 16 rfl) ?_
          refine lv_bipush (v := 10) hx hb dL_isFrameSo_427 (by decide) ?_
          refine z_callM (val := (-1)) (va_runV (As := [.int (nI a9), .int (nI c9), .int (nI g9), .int 10]) (rest := []) ⟨hx, hb, hml, hown, hts⟩ (pC_ifFrame' l G H.size ad k_10.1 k_10.2 (a9 := a9) (c9 := c9) (g9 := g9) (st := 10) hx9 hy9 ht9 (Nat.le_of_ble_eq_true rfl) (Nat.le_of_ble_eq_true rfl) (V := -1) i1) (cwV 4 hts gL_isFrameSo_X5_ifFrame rfl rfl rfl (by decide +kernel) ⟨(Nat.le_of_ble_eq_true rfl), (Nat.le_of_ble_eq_true rfl)⟩) (zV (ci := 5) (q0 := 0) hK hP hD rfl (wCl_0 G ad D_10)) rfl rfl hl.1 rfl (lv_room (Nat.le_of_ble_eq_true rfl)) dL_isFrameSo_429 ⟨(Nat.le_of_ble_eq_true rfl), (Nat.le_of_ble_eq_true rfl)⟩) hP hD hS hA (fun D_67 H locs k_67 hP hD hS => ?_)
          refine lv_iconst (v := -1) hx hb dL_isFrameSo_432 (by decide) ?_
          refine lv_icmp_ne (tgt := 454) hx hb dL_isFrameSo_433 (by decide) (fun c_68 => absurd ((t_eq (show (-1 : Int32).toInt = -1 by decide) (show (-1 : Int32).toInt = -1 by decide)).mpr (by omega)) c_68) (fun c_68 => ?_)
          refine lv_aload_n hx hb dL_isFrameSo_436 rfl (lv_at hl 13 rfl) ?_
          refine lv_iload_n hx hb dL_isFrameSo_437 rfl (lv_at hl 14 rfl) ?_
          refine lv_iload_n hx hb dL_isFrameSo_438 rfl (lv_at hl 15 rfl) ?_
          refine lv_iconst (v := 1) hx hb dL_isFrameSo_439 (by decide) ?_
          refine lv_iload_n hx hb dL_isFrameSo_440 rfl (lv_at hl 16 rfl) ?_
          refine lv_isub hx hb dL_isFrameSo_441 ?_
          refine z_top (show (1 : Int32) - (nI g9) = nI (1 - g9) from pk_sub (a := 1) (b := g9) (by omega)) ?_
          refine lv_bipush (v := 10) hx hb dL_isFrameSo_442 (by decide) ?_
          refine z_callM (val := 0) (va_runV (As := [.int (nI a9), .int (nI c9), .int (nI (1 - g9)), .int 10]) (rest := []) ⟨hx, hb, hml, hown, hts⟩ (pC_ifFrame' l G H.size ad k_67.1 k_67.2 (a9 := a9) (c9 := c9) (g9 := (1 - g9)) (st := 10) hx9 hy9 (show 1 - g9 < 2 by omega) (Nat.le_of_ble_eq_true rfl) (Nat.le_of_ble_eq_true rfl) (V := 0) i2) (cwV 4 hts gL_isFrameSo_X5_ifFrame rfl rfl rfl (by decide +kernel) ⟨(Nat.le_of_ble_eq_true rfl), (Nat.le_of_ble_eq_true rfl)⟩) (zV (ci := 5) (q0 := 0) hK hP hD rfl (wCl_0 G ad D_67)) rfl rfl hl.1 rfl (lv_room (Nat.le_of_ble_eq_true rfl)) dL_isFrameSo_444 ⟨(Nat.le_of_ble_eq_true rfl), (Nat.le_of_ble_eq_true rfl)⟩) hP hD hS hA (fun D_69 H locs k_69 hP hD hS => ?_)
          refine lv_if_ne (tgt := 454) hx hb dL_isFrameSo_447 (by decide) (fun c_70 => absurd ((t_eq (show (0 : Int32).toInt = 0 by decide) (show (0 : Int32).toInt = 0 by decide)).mpr (by omega)) c_70) (fun c_70 => ?_)
          refine lv_iconst (v := 1) hx hb dL_isFrameSo_450 (by decide) ?_
          refine lv_goto (tgt := 455) hx hb dL_isFrameSo_451 (by decide) ?_
          refine lv_istore (lv' := [(17, .int 1), (16, .int 0), (15, .int (nI (M 1) - nI (N 1))), (14, .int 0), (13, .int (nI (rfs N))), (12, .int (reV N)), (11, .int (nI (hoV N))), (10, .int (nI (N (16 + c9)))), (9, .int (nI (N (32 + c9)))), (8, .int (nI (N 7))), (7, .int (nI (N 8))), (6, .int (nI (N 1))), (5, .int 0), (0, .ref ad.2.2.1), (1, .int (nI a9)), (2, .int (nI c9)), (3, .int (nI g9)), (4, .int (nI st))]) hx hb dL_isFrameSo_455 hl (by decide) rfl (fun ls hl => ?_)
          refine lv_aload_n hx hb dL_isFrameSo_457 rfl (lv_at hl 13 rfl) ?_
          refine z_callA (va_runV (As := []) (rest := []) ⟨hx, hb, hml, hown, hts⟩ (pC_undo' l G H.size ad k_69.1 k_69.2) (cwV 0 hts gL_isFrameSo_X5_undo rfl rfl rfl (by decide +kernel) ⟨(Nat.le_of_ble_eq_true rfl), (Nat.le_of_ble_eq_true rfl)⟩) (zV (ci := 5) (q0 := 0) hK hP hD rfl (wCl_0 G ad D_69)) rfl rfl hl.1 rfl (lv_room (Nat.le_of_ble_eq_true rfl)) dL_isFrameSo_458 ⟨(Nat.le_of_ble_eq_true rfl), (Nat.le_of_ble_eq_true rfl)⟩) hP hD hS hA (fun v_71 D_71 H locs k_71 hP hD hS => ?_)
          obtain ⟨⟨j9, j1, rfl⟩, ⟨m9, M9, k9J⟩, k9U⟩ := k_71
          have hJ9 := Ud_J k9U k9J
          refine lv_istore (lv' := [(18, .int (nI j9)), (17, .int 1), (16, .int 0), (15, .int (nI (M 1) - nI (N 1))), (14, .int 0), (13, .int (nI (rfs N))), (12, .int (reV N)), (11, .int (nI (hoV N))), (10, .int (nI (N (16 + c9)))), (9, .int (nI (N (32 + c9)))), (8, .int (nI (N 7))), (7, .int (nI (N 8))), (6, .int (nI (N 1))), (5, .int 0), (0, .ref ad.2.2.1), (1, .int (nI a9)), (2, .int (nI c9)), (3, .int (nI g9)), (4, .int (nI st))]) hx hb dL_isFrameSo_461 hl (by decide) rfl (fun ls hl => ?_)
          refine lv_iload hx hb dL_isFrameSo_463 (lv_at hl 1 rfl) ?_
          refine lv_if_eq (tgt := 504) hx hb dL_isFrameSo_465 (by decide) (fun c_72 => absurd ((t_eq (show (1 : Int32).toInt = 1 by decide) (show (0 : Int32).toInt = 0 by decide)).mp c_72) (by omega)) (fun c_72 => ?_)
          refine lv_iload hx hb dL_isFrameSo_468 (lv_at hl 0 rfl) ?_
          refine lv_if_lt (tgt := 504) hx hb dL_isFrameSo_470 (by decide) (fun c_73 => absurd ((t_lt (nI_toInt (n := j9) (by omega)) (show (0 : Int32).toInt = 0 by decide)).mp c_73) (by omega)) (fun c_73 => ?_)
          refine lv_aload_n hx hb dL_isFrameSo_473 rfl (lv_at hl 14 rfl) ?_
          refine z_callG (val := nI (N 8)) (va_runV (As := []) (rest := []) ⟨hx, hb, hml, hown, hts⟩ (pC_received l G H.size ad hJ9) (cwV 0 hts gL_isFrameSo_X5_received rfl rfl rfl (by decide +kernel) ⟨(Nat.le_of_ble_eq_true rfl), (Nat.le_of_ble_eq_true rfl)⟩) (zV (ci := 5) (q0 := 0) hK hP hD rfl (wCl_0 G ad D_71)) rfl rfl hl.1 rfl (lv_room (Nat.le_of_ble_eq_true rfl)) dL_isFrameSo_474 ⟨(Nat.le_of_ble_eq_true rfl), (Nat.le_of_ble_eq_true rfl)⟩) hP hD hS hA (fun H locs hP hD hS => ?_)
          refine lv_iload hx hb dL_isFrameSo_477 (lv_at hl 11 rfl) ?_
          refine lv_icmp_ne (tgt := 504) hx hb dL_isFrameSo_479 (by decide) (fun c_75 => absurd ((t_eq (nI_toInt (n := (N 8)) (by omega)) (nI_toInt (n := (N 8)) (by omega))).mpr (by omega)) c_75) (fun c_75 => ?_)
          refine lv_aload_n hx hb dL_isFrameSo_482 rfl (lv_at hl 14 rfl) ?_
          refine z_callG (val := nI (N 1)) (va_runV (As := []) (rest := []) ⟨hx, hb, hml, hown, hts⟩ (pC_gain l G H.size ad hJ9) (cwV 0 hts gL_isFrameSo_X5_gain rfl rfl rfl (by decide +kernel) ⟨(Nat.le_of_ble_eq_true rfl), (Nat.le_of_ble_eq_true rfl)⟩) (zV (ci := 5) (q0 := 0) hK hP hD rfl (wCl_0 G ad D_71)) rfl rfl hl.1 rfl (lv_room (Nat.le_of_ble_eq_true rfl)) dL_isFrameSo_483 ⟨(Nat.le_of_ble_eq_true rfl), (Nat.le_of_ble_eq_true rfl)⟩) hP hD hS hA (fun H locs hP hD hS => ?_)
          refine lv_iload hx hb dL_isFrameSo_486 (lv_at hl 12 rfl) ?_
          refine lv_icmp_ne (tgt := 504) hx hb dL_isFrameSo_488 (by decide) (fun c_77 => absurd ((t_eq (nI_toInt (n := (N 1)) (by omega)) (nI_toInt (n := (N 1)) (by omega))).mpr (by omega)) c_77) (fun c_77 => ?_)
          refine lv_aload_n hx hb dL_isFrameSo_491 rfl (lv_at hl 14 rfl) ?_
          refine z_callG (val := nI (hoV N)) (va_runV (As := []) (rest := []) ⟨hx, hb, hml, hown, hts⟩ (pC_holds' l G H.size ad hJ9 (show (if rem N then nI (N 5) else 0) = nI (hoV N) by unfold hoV; split <;> rfl)) (cwV 0 hts gL_isFrameSo_X5_holds rfl rfl rfl (by decide +kernel) ⟨(Nat.le_of_ble_eq_true rfl), (Nat.le_of_ble_eq_true rfl)⟩) (zV (ci := 5) (q0 := 0) hK hP hD rfl (wCl_0 G ad D_71)) rfl rfl hl.1 rfl (lv_room (Nat.le_of_ble_eq_true rfl)) dL_isFrameSo_492 ⟨(Nat.le_of_ble_eq_true rfl), (Nat.le_of_ble_eq_true rfl)⟩) hP hD hS hA (fun H locs hP hD hS => ?_)
          refine lv_iload hx hb dL_isFrameSo_495 (lv_at hl 7 rfl) ?_
          refine lv_icmp_ne (tgt := 504) hx hb dL_isFrameSo_497 (by decide) (fun c_79 => absurd ((t_eq (nI_toInt (n := (hoV N)) (by omega)) (nI_toInt (n := (hoV N)) (by omega))).mpr (by omega)) c_79) (fun c_79 => ?_)
          refine lv_iconst (v := 1) hx hb dL_isFrameSo_500 (by decide) ?_
          refine lv_goto (tgt := 505) hx hb dL_isFrameSo_501 (by decide) ?_
          exact z_iret hx hb hr rfl hlocks D_71 hP hD hS (Nat.le_of_ble_eq_true rfl) (Nat.le_of_ble_eq_true rfl) dL_isFrameSo_505 ⟨rfl, hJ9⟩
    · have zz : ¬ N (16 + c9) = 0 := fun y => c_39 ((z_le (b := 0) rfl rfl (by omega) (by omega)).mpr (Nat.le_of_eq y))
      rw [if_neg zz] at rd
      refine lv_iconst (v := 1) hx hb dL_isFrameSo_246 (by decide) ?_
      refine lv_goto (tgt := 251) hx hb dL_isFrameSo_247 (by decide) ?_
      refine lv_iadd hx hb dL_isFrameSo_251 ?_
      refine z_top (show nI (N (32 + c9)) + (1 : Int32) = nI ((N (32 + c9)) + 1) from nI_add (N (32 + c9)) 1) ?_
      refine lv_icmp_ne (tgt := 259) hx hb dL_isFrameSo_252 (by decide) (fun c_80 => absurd ((t_eq (nI_toInt (n := (M (32 + c9))) (by omega)) (nI_toInt (n := ((N (32 + c9)) + 1)) (by omega))).mpr (by omega)) c_80) (fun c_80 => ?_)
      refine lv_iconst (v := 1) hx hb dL_isFrameSo_255 (by decide) ?_
      refine lv_goto (tgt := 260) hx hb dL_isFrameSo_256 (by decide) ?_
      refine lv_istore (lv' := [(17, .int 1), (16, .int 0), (15, .int (nI (M 1) - nI (N 1))), (14, .int 0), (13, .int (nI (rfs N))), (12, .int (reV N)), (11, .int (nI (hoV N))), (10, .int (nI (N (16 + c9)))), (9, .int (nI (N (32 + c9)))), (8, .int (nI (N 7))), (7, .int (nI (N 8))), (6, .int (nI (N 1))), (5, .int 0), (0, .ref ad.2.2.1), (1, .int (nI a9)), (2, .int (nI c9)), (3, .int (nI g9)), (4, .int (nI st))]) hx hb dL_isFrameSo_260 hl (by decide) rfl (fun ls hl => ?_)
      refine lv_iload hx hb dL_isFrameSo_262 (lv_at hl 3 rfl) ?_
      refine lv_iconst (v := -1) hx hb dL_isFrameSo_264 (by decide) ?_
      refine lv_icmp_ne (tgt := 345) hx hb dL_isFrameSo_265 (by decide) (fun c_81 => ?_) (fun c_81 => absurd ((t_eq (show (0 : Int32).toInt = 0 by decide) (show (-1 : Int32).toInt = -1 by decide)).mp c_81) (by omega))
      refine lv_iload hx hb dL_isFrameSo_345 (lv_at hl 3 rfl) ?_
      refine lv_if_le (tgt := 397) hx hb dL_isFrameSo_347 (by decide) (fun c_82 => ?_) (fun c_82 => absurd ((t_le (show (0 : Int32).toInt = 0 by decide) (show (0 : Int32).toInt = 0 by decide)).mpr (by omega)) c_82)
      refine lv_iload hx hb dL_isFrameSo_397 (lv_at hl 3 rfl) ?_
      refine lv_if_gt (tgt := 457) hx hb dL_isFrameSo_399 (by decide) (fun c_83 => absurd ((t_lt (show (0 : Int32).toInt = 0 by decide) (show (0 : Int32).toInt = 0 by decide)).mp c_83) (by omega)) (fun c_83 => ?_)
      refine lv_aload_n hx hb dL_isFrameSo_402 rfl (lv_at hl 13 rfl) ?_
      refine z_callG (val := nI (M 0)) (va_runV (As := []) (rest := []) ⟨hx, hb, hml, hown, hts⟩ (pC_glare l G H.size ad k_10.1) (cwV 0 hts gL_isFrameSo_X5_glare rfl rfl rfl (by decide +kernel) ⟨(Nat.le_of_ble_eq_true rfl), (Nat.le_of_ble_eq_true rfl)⟩) (zV (ci := 5) (q0 := 0) hK hP hD rfl (wCl_0 G ad D_10)) rfl rfl hl.1 rfl (lv_room (Nat.le_of_ble_eq_true rfl)) dL_isFrameSo_403 ⟨(Nat.le_of_ble_eq_true rfl), (Nat.le_of_ble_eq_true rfl)⟩) hP hD hS hA (fun H locs hP hD hS => ?_)
      refine lv_if_ne (tgt := 457) hx hb dL_isFrameSo_406 (by decide) (fun c_85 => ?_) (fun c_85 => ?_)
      · refine lv_aload_n hx hb dL_isFrameSo_457 rfl (lv_at hl 13 rfl) ?_
        refine z_callA (va_runV (As := []) (rest := []) ⟨hx, hb, hml, hown, hts⟩ (pC_undo' l G H.size ad k_10.1 k_10.2) (cwV 0 hts gL_isFrameSo_X5_undo rfl rfl rfl (by decide +kernel) ⟨(Nat.le_of_ble_eq_true rfl), (Nat.le_of_ble_eq_true rfl)⟩) (zV (ci := 5) (q0 := 0) hK hP hD rfl (wCl_0 G ad D_10)) rfl rfl hl.1 rfl (lv_room (Nat.le_of_ble_eq_true rfl)) dL_isFrameSo_458 ⟨(Nat.le_of_ble_eq_true rfl), (Nat.le_of_ble_eq_true rfl)⟩) hP hD hS hA (fun v_86 D_86 H locs k_86 hP hD hS => ?_)
        obtain ⟨⟨j9, j1, rfl⟩, ⟨m9, M9, k9J⟩, k9U⟩ := k_86
        have hJ9 := Ud_J k9U k9J
        refine lv_istore (lv' := [(18, .int (nI j9)), (17, .int 1), (16, .int 0), (15, .int (nI (M 1) - nI (N 1))), (14, .int 0), (13, .int (nI (rfs N))), (12, .int (reV N)), (11, .int (nI (hoV N))), (10, .int (nI (N (16 + c9)))), (9, .int (nI (N (32 + c9)))), (8, .int (nI (N 7))), (7, .int (nI (N 8))), (6, .int (nI (N 1))), (5, .int 0), (0, .ref ad.2.2.1), (1, .int (nI a9)), (2, .int (nI c9)), (3, .int (nI g9)), (4, .int (nI st))]) hx hb dL_isFrameSo_461 hl (by decide) rfl (fun ls hl => ?_)
        refine lv_iload hx hb dL_isFrameSo_463 (lv_at hl 1 rfl) ?_
        refine lv_if_eq (tgt := 504) hx hb dL_isFrameSo_465 (by decide) (fun c_87 => absurd ((t_eq (show (1 : Int32).toInt = 1 by decide) (show (0 : Int32).toInt = 0 by decide)).mp c_87) (by omega)) (fun c_87 => ?_)
        refine lv_iload hx hb dL_isFrameSo_468 (lv_at hl 0 rfl) ?_
        refine lv_if_lt (tgt := 504) hx hb dL_isFrameSo_470 (by decide) (fun c_88 => absurd ((t_lt (nI_toInt (n := j9) (by omega)) (show (0 : Int32).toInt = 0 by decide)).mp c_88) (by omega)) (fun c_88 => ?_)
        refine lv_aload_n hx hb dL_isFrameSo_473 rfl (lv_at hl 14 rfl) ?_
        refine z_callG (val := nI (N 8)) (va_runV (As := []) (rest := []) ⟨hx, hb, hml, hown, hts⟩ (pC_received l G H.size ad hJ9) (cwV 0 hts gL_isFrameSo_X5_received rfl rfl rfl (by decide +kernel) ⟨(Nat.le_of_ble_eq_true rfl), (Nat.le_of_ble_eq_true rfl)⟩) (zV (ci := 5) (q0 := 0) hK hP hD rfl (wCl_0 G ad D_86)) rfl rfl hl.1 rfl (lv_room (Nat.le_of_ble_eq_true rfl)) dL_isFrameSo_474 ⟨(Nat.le_of_ble_eq_true rfl), (Nat.le_of_ble_eq_true rfl)⟩) hP hD hS hA (fun H locs hP hD hS => ?_)
        refine lv_iload hx hb dL_isFrameSo_477 (lv_at hl 11 rfl) ?_
        refine lv_icmp_ne (tgt := 504) hx hb dL_isFrameSo_479 (by decide) (fun c_90 => absurd ((t_eq (nI_toInt (n := (N 8)) (by omega)) (nI_toInt (n := (N 8)) (by omega))).mpr (by omega)) c_90) (fun c_90 => ?_)
        refine lv_aload_n hx hb dL_isFrameSo_482 rfl (lv_at hl 14 rfl) ?_
        refine z_callG (val := nI (N 1)) (va_runV (As := []) (rest := []) ⟨hx, hb, hml, hown, hts⟩ (pC_gain l G H.size ad hJ9) (cwV 0 hts gL_isFrameSo_X5_gain rfl rfl rfl (by decide +kernel) ⟨(Nat.le_of_ble_eq_true rfl), (Nat.le_of_ble_eq_true rfl)⟩) (zV (ci := 5) (q0 := 0) hK hP hD rfl (wCl_0 G ad D_86)) rfl rfl hl.1 rfl (lv_room (Nat.le_of_ble_eq_true rfl)) dL_isFrameSo_483 ⟨(Nat.le_of_ble_eq_true rfl), (Nat.le_of_ble_eq_true rfl)⟩) hP hD hS hA (fun H locs hP hD hS => ?_)
        refine lv_iload hx hb dL_isFrameSo_486 (lv_at hl 12 rfl) ?_
        refine lv_icmp_ne (tgt := 504) hx hb dL_isFrameSo_488 (by decide) (fun c_92 => absurd ((t_eq (nI_toInt (n := (N 1)) (by omega)) (nI_toInt (n := (N 1)) (by omega))).mpr (by omega)) c_92) (fun c_92 => ?_)
        refine lv_aload_n hx hb dL_isFrameSo_491 rfl (lv_at hl 14 rfl) ?_
        refine z_callG (val := nI (hoV N)) (va_runV (As := []) (rest := []) ⟨hx, hb, hml, hown, hts⟩ (pC_holds' l G H.size ad hJ9 (show (if rem N then nI (N 5) else 0) = nI (hoV N) by unfold hoV; split <;> rfl)) (cwV 0 hts gL_isFrameSo_X5_holds rfl rfl rfl (by decide +kernel) ⟨(Nat.le_of_ble_eq_true rfl), (Nat.le_of_ble_eq_true rfl)⟩) (zV (ci := 5) (q0 := 0) hK hP hD rfl (wCl_0 G ad D_86)) rfl rfl hl.1 rfl (lv_room (Nat.le_of_ble_eq_true rfl)) dL_isFrameSo_492 ⟨(Nat.le_of_ble_eq_true rfl), (Nat.le_of_ble_eq_true rfl)⟩) hP hD hS hA (fun H locs hP hD hS => ?_)
        refine lv_iload hx hb dL_isFrameSo_495 (lv_at hl 7 rfl) ?_
        refine lv_icmp_ne (tgt := 504) hx hb dL_isFrameSo_497 (by decide) (fun c_94 => absurd ((t_eq (nI_toInt (n := (hoV N)) (by omega)) (nI_toInt (n := (hoV N)) (by omega))).mpr (by omega)) c_94) (fun c_94 => ?_)
        refine lv_iconst (v := 1) hx hb dL_isFrameSo_500 (by decide) ?_
        refine lv_goto (tgt := 505) hx hb dL_isFrameSo_501 (by decide) ?_
        exact z_iret hx hb hr rfl hlocks D_86 hP hD hS (Nat.le_of_ble_eq_true rfl) (Nat.le_of_ble_eq_true rfl) dL_isFrameSo_505 ⟨rfl, hJ9⟩
      · refine lv_aload_n hx hb dL_isFrameSo_409 rfl (lv_at hl 13 rfl) ?_
        refine z_callG (val := nI (M 1)) (va_runV (As := []) (rest := []) ⟨hx, hb, hml, hown, hts⟩ (pC_gain l G H.size ad k_10.1) (cwV 0 hts gL_isFrameSo_X5_gain rfl rfl rfl (by decide +kernel) ⟨(Nat.le_of_ble_eq_true rfl), (Nat.le_of_ble_eq_true rfl)⟩) (zV (ci := 5) (q0 := 0) hK hP hD rfl (wCl_0 G ad D_10)) rfl rfl hl.1 rfl (lv_room (Nat.le_of_ble_eq_true rfl)) dL_isFrameSo_410 ⟨(Nat.le_of_ble_eq_true rfl), (Nat.le_of_ble_eq_true rfl)⟩) hP hD hS hA (fun H locs hP hD hS => ?_)
        refine lv_bipush (v := 10) hx hb dL_isFrameSo_413 (by decide) ?_
        refine lv_icmp_ne (tgt := 457) hx hb dL_isFrameSo_415 (by decide) (fun c_96 => ?_) (fun c_96 => ?_)
        · refine lv_aload_n hx hb dL_isFrameSo_457 rfl (lv_at hl 13 rfl) ?_
          refine z_callA (va_runV (As := []) (rest := []) ⟨hx, hb, hml, hown, hts⟩ (pC_undo' l G H.size ad k_10.1 k_10.2) (cwV 0 hts gL_isFrameSo_X5_undo rfl rfl rfl (by decide +kernel) ⟨(Nat.le_of_ble_eq_true rfl), (Nat.le_of_ble_eq_true rfl)⟩) (zV (ci := 5) (q0 := 0) hK hP hD rfl (wCl_0 G ad D_10)) rfl rfl hl.1 rfl (lv_room (Nat.le_of_ble_eq_true rfl)) dL_isFrameSo_458 ⟨(Nat.le_of_ble_eq_true rfl), (Nat.le_of_ble_eq_true rfl)⟩) hP hD hS hA (fun v_97 D_97 H locs k_97 hP hD hS => ?_)
          obtain ⟨⟨j9, j1, rfl⟩, ⟨m9, M9, k9J⟩, k9U⟩ := k_97
          have hJ9 := Ud_J k9U k9J
          refine lv_istore (lv' := [(18, .int (nI j9)), (17, .int 1), (16, .int 0), (15, .int (nI (M 1) - nI (N 1))), (14, .int 0), (13, .int (nI (rfs N))), (12, .int (reV N)), (11, .int (nI (hoV N))), (10, .int (nI (N (16 + c9)))), (9, .int (nI (N (32 + c9)))), (8, .int (nI (N 7))), (7, .int (nI (N 8))), (6, .int (nI (N 1))), (5, .int 0), (0, .ref ad.2.2.1), (1, .int (nI a9)), (2, .int (nI c9)), (3, .int (nI g9)), (4, .int (nI st))]) hx hb dL_isFrameSo_461 hl (by decide) rfl (fun ls hl => ?_)
          refine lv_iload hx hb dL_isFrameSo_463 (lv_at hl 1 rfl) ?_
          refine lv_if_eq (tgt := 504) hx hb dL_isFrameSo_465 (by decide) (fun c_98 => absurd ((t_eq (show (1 : Int32).toInt = 1 by decide) (show (0 : Int32).toInt = 0 by decide)).mp c_98) (by omega)) (fun c_98 => ?_)
          refine lv_iload hx hb dL_isFrameSo_468 (lv_at hl 0 rfl) ?_
          refine lv_if_lt (tgt := 504) hx hb dL_isFrameSo_470 (by decide) (fun c_99 => absurd ((t_lt (nI_toInt (n := j9) (by omega)) (show (0 : Int32).toInt = 0 by decide)).mp c_99) (by omega)) (fun c_99 => ?_)
          refine lv_aload_n hx hb dL_isFrameSo_473 rfl (lv_at hl 14 rfl) ?_
          refine z_callG (val := nI (N 8)) (va_runV (As := []) (rest := []) ⟨hx, hb, hml, hown, hts⟩ (pC_received l G H.size ad hJ9) (cwV 0 hts gL_isFrameSo_X5_received rfl rfl rfl (by decide +kernel) ⟨(Nat.le_of_ble_eq_true rfl), (Nat.le_of_ble_eq_true rfl)⟩) (zV (ci := 5) (q0 := 0) hK hP hD rfl (wCl_0 G ad D_97)) rfl rfl hl.1 rfl (lv_room (Nat.le_of_ble_eq_true rfl)) dL_isFrameSo_474 ⟨(Nat.le_of_ble_eq_true rfl), (Nat.le_of_ble_eq_true rfl)⟩) hP hD hS hA (fun H locs hP hD hS => ?_)
          refine lv_iload hx hb dL_isFrameSo_477 (lv_at hl 11 rfl) ?_
          refine lv_icmp_ne (tgt := 504) hx hb dL_isFrameSo_479 (by decide) (fun c_101 => absurd ((t_eq (nI_toInt (n := (N 8)) (by omega)) (nI_toInt (n := (N 8)) (by omega))).mpr (by omega)) c_101) (fun c_101 => ?_)
          refine lv_aload_n hx hb dL_isFrameSo_482 rfl (lv_at hl 14 rfl) ?_
          refine z_callG (val := nI (N 1)) (va_runV (As := []) (rest := []) ⟨hx, hb, hml, hown, hts⟩ (pC_gain l G H.size ad hJ9) (cwV 0 hts gL_isFrameSo_X5_gain rfl rfl rfl (by decide +kernel) ⟨(Nat.le_of_ble_eq_true rfl), (Nat.le_of_ble_eq_true rfl)⟩) (zV (ci := 5) (q0 := 0) hK hP hD rfl (wCl_0 G ad D_97)) rfl rfl hl.1 rfl (lv_room (Nat.le_of_ble_eq_true rfl)) dL_isFrameSo_483 ⟨(Nat.le_of_ble_eq_true rfl), (Nat.le_of_ble_eq_true rfl)⟩) hP hD hS hA (fun H locs hP hD hS => ?_)
          refine lv_iload hx hb dL_isFrameSo_486 (lv_at hl 12 rfl) ?_
          refine lv_icmp_ne (tgt := 504) hx hb dL_isFrameSo_488 (by decide) (fun c_103 => absurd ((t_eq (nI_toInt (n := (N 1)) (by omega)) (nI_toInt (n := (N 1)) (by omega))).mpr (by omega)) c_103) (fun c_103 => ?_)
          refine lv_aload_n hx hb dL_isFrameSo_491 rfl (lv_at hl 14 rfl) ?_
          refine z_callG (val := nI (hoV N)) (va_runV (As := []) (rest := []) ⟨hx, hb, hml, hown, hts⟩ (pC_holds' l G H.size ad hJ9 (show (if rem N then nI (N 5) else 0) = nI (hoV N) by unfold hoV; split <;> rfl)) (cwV 0 hts gL_isFrameSo_X5_holds rfl rfl rfl (by decide +kernel) ⟨(Nat.le_of_ble_eq_true rfl), (Nat.le_of_ble_eq_true rfl)⟩) (zV (ci := 5) (q0 := 0) hK hP hD rfl (wCl_0 G ad D_97)) rfl rfl hl.1 rfl (lv_room (Nat.le_of_ble_eq_true rfl)) dL_isFrameSo_492 ⟨(Nat.le_of_ble_eq_true rfl), (Nat.le_of_ble_eq_true rfl)⟩) hP hD hS hA (fun H locs hP hD hS => ?_)
          refine lv_iload hx hb dL_isFrameSo_495 (lv_at hl 7 rfl) ?_
          refine lv_icmp_ne (tgt := 504) hx hb dL_isFrameSo_497 (by decide) (fun c_105 => absurd ((t_eq (nI_toInt (n := (hoV N)) (by omega)) (nI_toInt (n := (hoV N)) (by omega))).mpr (by omega)) c_105) (fun c_105 => ?_)
          refine lv_iconst (v := 1) hx hb dL_isFrameSo_500 (by decide) ?_
          refine lv_goto (tgt := 505) hx hb dL_isFrameSo_501 (by decide) ?_
          exact z_iret hx hb hr rfl hlocks D_97 hP hD hS (Nat.le_of_ble_eq_true rfl) (Nat.le_of_ble_eq_true rfl) dL_isFrameSo_505 ⟨rfl, hJ9⟩
        · refine lv_iload hx hb dL_isFrameSo_418 (lv_at hl 0 rfl) ?_
          refine lv_if_eq (tgt := 454) hx hb dL_isFrameSo_420 (by decide) (fun c_106 => absurd ((t_eq (show (1 : Int32).toInt = 1 by decide) (show (0 : Int32).toInt = 0 by decide)).mp c_106) (by omega)) (fun c_106 => ?_)
          have z0 : M 0 = 0 := (z_eq (b := 0) rfl rfl (by omega) (by omega)).mp c_85
          have z1 : M 1 = 10 := (z_eq (b := 10) rfl rfl (by omega) (by omega)).mp c_96
          have nb : ¬ bad M 10 := by
            unfold bad
            rw [z0, z1]
            omega
          have i1 : (frV M a9 c9 g9 10).1 = -1 := by rw [fr_two hx9 hy9 ht9 nb (by omega), if_pos ⟨rM1, by omega, by omega⟩]
          have i2 : (frV M a9 c9 (1 - g9) 10).1 = 0 := by rw [fr_two hx9 hy9 (show 1 - g9 < 2 by omega) nb (by omega), if_neg (fun z => absurd z.2.2 (by omega))]
          refine lv_aload_n hx hb dL_isFrameSo_423 rfl (lv_at hl 13 rfl) ?_
          refine lv_iload_n hx hb dL_isFrameSo_424 rfl (lv_at hl 14 rfl) ?_
          refine lv_iload_n hx hb dL_isFrameSo_425 rfl (lv_at hl 15 rfl) ?_
          refine lv_iload_n hx hb dL_isFrameSo_426 rfl (lv_at hl 16 rfl) ?_
          refine lv_bipush (v := 10) hx hb dL_isFrameSo_427 (by decide) ?_
          refine z_callM (val := (-1)) (va_runV (As := [.int (nI a9), .int (nI c9), .int (nI g9), .int 10]) (rest := []) ⟨hx, hb, hml, hown, hts⟩ (pC_ifFrame' l G H.size ad k_10.1 k_10.2 (a9 := a9) (c9 := c9) (g9 := g9) (st := 10) hx9 hy9 ht9 (Nat.le_of_ble_eq_true rfl) (Nat.le_of_ble_eq_true rfl) (V := -1) i1) (cwV 4 hts gL_isFrameSo_X5_ifFrame rfl rfl rfl (by decide +kernel) ⟨(Nat.le_of_ble_eq_true rfl), (Nat.le_of_ble_eq_true rfl)⟩) (zV (ci := 5) (q0 := 0) hK hP hD rfl (wCl_0 G ad D_10)) rfl rfl hl.1 rfl (lv_room (Nat.le_of_ble_eq_true rfl)) dL_isFrameSo_429 ⟨(Nat.le_of_ble_eq_true rfl), (Nat.le_of_ble_eq_true rfl)⟩) hP hD hS hA (fun D_107 H locs k_107 hP hD hS => ?_)
          refine lv_iconst (v := -1) hx hb dL_isFrameSo_432 (by decide) ?_
          refine lv_icmp_ne (tgt := 454) hx hb dL_isFrameSo_433 (by decide) (fun c_108 => absurd ((t_eq (show (-1 : Int32).toInt = -1 by decide) (show (-1 : Int32).toInt = -1 by decide)).mpr (by omega)) c_108) (fun c_108 => ?_)
          refine lv_aload_n hx hb dL_isFrameSo_436 rfl (lv_at hl 13 rfl) ?_
          refine lv_iload_n hx hb dL_isFrameSo_437 rfl (lv_at hl 14 rfl) ?_
          refine lv_iload_n hx hb dL_isFrameSo_438 rfl (lv_at hl 15 rfl) ?_
          refine lv_iconst (v := 1) hx hb dL_isFrameSo_439 (by decide) ?_
          refine lv_iload_n hx hb dL_isFrameSo_440 rfl (lv_at hl 16 rfl) ?_
          refine lv_isub hx hb dL_isFrameSo_441 ?_
          refine z_top (show (1 : Int32) - (nI g9) = nI (1 - g9) from pk_sub (a := 1) (b := g9) (by omega)) ?_
          refine lv_bipush (v := 10) hx hb dL_isFrameSo_442 (by decide) ?_
          refine z_callM (val := 0) (va_runV (As := [.int (nI a9), .int (nI c9), .int (nI (1 - g9)), .int 10]) (rest := []) ⟨hx, hb, hml, hown, hts⟩ (pC_ifFrame' l G H.size ad k_107.1 k_107.2 (a9 := a9) (c9 := c9) (g9 := (1 - g9)) (st := 10) hx9 hy9 (show 1 - g9 < 2 by omega) (Nat.le_of_ble_eq_true rfl) (Nat.le_of_ble_eq_true rfl) (V := 0) i2) (cwV 4 hts gL_isFrameSo_X5_ifFrame rfl rfl rfl (by decide +kernel) ⟨(Nat.le_of_ble_eq_true rfl), (Nat.le_of_ble_eq_true rfl)⟩) (zV (ci := 5) (q0 := 0) hK hP hD rfl (wCl_0 G ad D_107)) rfl rfl hl.1 rfl (lv_room (Nat.le_of_ble_eq_true rfl)) dL_isFrameSo_444 ⟨(Nat.le_of_ble_eq_true rfl), (Nat.le_of_ble_eq_true rfl)⟩) hP hD hS hA (fun D_109 H locs k_109 hP hD hS => ?_)
          refine lv_if_ne (tgt := 454) hx hb dL_isFrameSo_447 (by decide) (fun c_110 => absurd ((t_eq (show (0 : Int32).toInt = 0 by decide) (show (0 : Int32).toInt = 0 by decide)).mpr (by omega)) c_110) (fun c_110 => ?_)
          refine lv_iconst (v := 1) hx hb dL_isFrameSo_450 (by decide) ?_
          refine lv_goto (tgt := 455) hx hb dL_isFrameSo_451 (by decide) ?_
          refine lv_istore (lv' := [(17, .int 1), (16, .int 0), (15, .int (nI (M 1) - nI (N 1))), (14, .int 0), (13, .int (nI (rfs N))), (12, .int (reV N)), (11, .int (nI (hoV N))), (10, .int (nI (N (16 + c9)))), (9, .int (nI (N (32 + c9)))), (8, .int (nI (N 7))), (7, .int (nI (N 8))), (6, .int (nI (N 1))), (5, .int 0), (0, .ref ad.2.2.1), (1, .int (nI a9)), (2, .int (nI c9)), (3, .int (nI g9)), (4, .int (nI st))]) hx hb dL_isFrameSo_455 hl (by decide) rfl (fun ls hl => ?_)
          refine lv_aload_n hx hb dL_isFrameSo_457 rfl (lv_at hl 13 rfl) ?_
          refine z_callA (va_runV (As := []) (rest := []) ⟨hx, hb, hml, hown, hts⟩ (pC_undo' l G H.size ad k_109.1 k_109.2) (cwV 0 hts gL_isFrameSo_X5_undo rfl rfl rfl (by decide +kernel) ⟨(Nat.le_of_ble_eq_true rfl), (Nat.le_of_ble_eq_true rfl)⟩) (zV (ci := 5) (q0 := 0) hK hP hD rfl (wCl_0 G ad D_109)) rfl rfl hl.1 rfl (lv_room (Nat.le_of_ble_eq_true rfl)) dL_isFrameSo_458 ⟨(Nat.le_of_ble_eq_true rfl), (Nat.le_of_ble_eq_true rfl)⟩) hP hD hS hA (fun v_111 D_111 H locs k_111 hP hD hS => ?_)
          obtain ⟨⟨j9, j1, rfl⟩, ⟨m9, M9, k9J⟩, k9U⟩ := k_111
          have hJ9 := Ud_J k9U k9J
          refine lv_istore (lv' := [(18, .int (nI j9)), (17, .int 1), (16, .int 0), (15, .int (nI (M 1) - nI (N 1))), (14, .int 0), (13, .int (nI (rfs N))), (12, .int (reV N)), (11, .int (nI (hoV N))), (10, .int (nI (N (16 + c9)))), (9, .int (nI (N (32 + c9)))), (8, .int (nI (N 7))), (7, .int (nI (N 8))), (6, .int (nI (N 1))), (5, .int 0), (0, .ref ad.2.2.1), (1, .int (nI a9)), (2, .int (nI c9)), (3, .int (nI g9)), (4, .int (nI st))]) hx hb dL_isFrameSo_461 hl (by decide) rfl (fun ls hl => ?_)
          refine lv_iload hx hb dL_isFrameSo_463 (lv_at hl 1 rfl) ?_
          refine lv_if_eq (tgt := 504) hx hb dL_isFrameSo_465 (by decide) (fun c_112 => absurd ((t_eq (show (1 : Int32).toInt = 1 by decide) (show (0 : Int32).toInt = 0 by decide)).mp c_112) (by omega)) (fun c_112 => ?_)
          refine lv_iload hx hb dL_isFrameSo_468 (lv_at hl 0 rfl) ?_
          refine lv_if_lt (tgt := 504) hx hb dL_isFrameSo_470 (by decide) (fun c_113 => absurd ((t_lt (nI_toInt (n := j9) (by omega)) (show (0 : Int32).toInt = 0 by decide)).mp c_113) (by omega)) (fun c_113 => ?_)
          refine lv_aload_n hx hb dL_isFrameSo_473 rfl (lv_at hl 14 rfl) ?_
          refine z_callG (val := nI (N 8)) (va_runV (As := []) (rest := []) ⟨hx, hb, hml, hown, hts⟩ (pC_received l G H.size ad hJ9) (cwV 0 hts gL_isFrameSo_X5_received rfl rfl rfl (by decide +kernel) ⟨(Nat.le_of_ble_eq_true rfl), (Nat.le_of_ble_eq_true rfl)⟩) (zV (ci := 5) (q0 := 0) hK hP hD rfl (wCl_0 G ad D_111)) rfl rfl hl.1 rfl (lv_room (Nat.le_of_ble_eq_true rfl)) dL_isFrameSo_474 ⟨(Nat.le_of_ble_eq_true rfl), (Nat.le_of_ble_eq_true rfl)⟩) hP hD hS hA (fun H locs hP hD hS => ?_)
          refine lv_iload hx hb dL_isFrameSo_477 (lv_at hl 11 rfl) ?_
          refine lv_icmp_ne (tgt := 504) hx hb dL_isFrameSo_479 (by decide) (fun c_115 => absurd ((t_eq (nI_toInt (n := (N 8)) (by omega)) (nI_toInt (n := (N 8)) (by omega))).mpr (by omega)) c_115) (fun c_115 => ?_)
          refine lv_aload_n hx hb dL_isFrameSo_482 rfl (lv_at hl 14 rfl) ?_
          refine z_callG (val := nI (N 1)) (va_runV (As := []) (rest := []) ⟨hx, hb, hml, hown, hts⟩ (pC_gain l G H.size ad hJ9) (cwV 0 hts gL_isFrameSo_X5_gain rfl rfl rfl (by decide +kernel) ⟨(Nat.le_of_ble_eq_true rfl), (Nat.le_of_ble_eq_true rfl)⟩) (zV (ci := 5) (q0 := 0) hK hP hD rfl (wCl_0 G ad D_111)) rfl rfl hl.1 rfl (lv_room (Nat.le_of_ble_eq_true rfl)) dL_isFrameSo_483 ⟨(Nat.le_of_ble_eq_true rfl), (Nat.le_of_ble_eq_true rfl)⟩) hP hD hS hA (fun H locs hP hD hS => ?_)
          refine lv_iload hx hb dL_isFrameSo_486 (lv_at hl 12 rfl) ?_
          refine lv_icmp_ne (tgt := 504) hx hb dL_isFrameSo_488 (by decide) (fun c_117 => absurd ((t_eq (nI_toInt (n := (N 1)) (by omega)) (nI_toInt (n := (N 1)) (by omega))).mpr (by omega)) c_117) (fun c_117 => ?_)
          refine lv_aload_n hx hb dL_isFrameSo_491 rfl (lv_at hl 14 rfl) ?_
          refine z_callG (val := nI (hoV N)) (va_runV (As := []) (rest := []) ⟨hx, hb, hml, hown, hts⟩ (pC_holds' l G H.size ad hJ9 (show (if rem N then nI (N 5) else 0) = nI (hoV N) by unfold hoV; split <;> rfl)) (cwV 0 hts gL_isFrameSo_X5_holds rfl rfl rfl (by decide +kernel) ⟨(Nat.le_of_ble_eq_true rfl), (Nat.le_of_ble_eq_true rfl)⟩) (zV (ci := 5) (q0 := 0) hK hP hD rfl (wCl_0 G ad D_111)) rfl rfl hl.1 rfl (lv_room (Nat.le_of_ble_eq_true rfl)) dL_isFrameSo_492 ⟨(Nat.le_of_ble_eq_true rfl), (Nat.le_of_ble_eq_true rfl)⟩) hP hD hS hA (fun H locs hP hD hS => ?_)
          refine lv_iload hx hb dL_isFrameSo_495 (lv_at hl 7 rfl) ?_
          refine lv_icmp_ne (tgt := 504) hx hb dL_isFrameSo_497 (by decide) (fun c_119 => absurd ((t_eq (nI_toInt (n := (hoV N)) (by omega)) (nI_toInt (n := (hoV N)) (by omega))).mpr (by omega)) c_119) (fun c_119 => ?_)
          refine lv_iconst (v := 1) hx hb dL_isFrameSo_500 (by decide) ?_
          refine lv_goto (tgt := 505) hx hb dL_isFrameSo_501 (by decide) ?_
          exact z_iret hx hb hr rfl hlocks D_111 hP hD hS (Nat.le_of_ble_eq_true rfl) (Nat.le_of_ble_eq_true rfl) dL_isFrameSo_505 ⟨rfl, hJ9⟩
  · refine lv_iconst (v := 1) hx hb dL_isFrameSo_93 (by decide) ?_
    refine lv_goto (tgt := 98) hx hb dL_isFrameSo_94 (by decide) ?_
    refine lv_istore (lv' := [(16, .int 1), (15, .int (nI (M 1) - nI (N 1))), (14, .int 0), (13, .int (nI (rfs N))), (12, .int (reV N)), (11, .int (nI (hoV N))), (10, .int (nI (N (16 + c9)))), (9, .int (nI (N (32 + c9)))), (8, .int (nI (N 7))), (7, .int (nI (N 8))), (6, .int (nI (N 1))), (5, .int 0), (0, .ref ad.2.2.1), (1, .int (nI a9)), (2, .int (nI c9)), (3, .int (nI g9)), (4, .int (nI st))]) hx hb dL_isFrameSo_98 hl (by decide) rfl (fun ls hl => ?_)
    refine lv_iload hx hb dL_isFrameSo_100 (lv_at hl 2 rfl) ?_
    refine lv_iload hx hb dL_isFrameSo_102 (lv_at hl 11 rfl) ?_
    refine lv_icmp_ne (tgt := 197) hx hb dL_isFrameSo_104 (by decide) (fun c_120 => absurd ((t_eq (show (0 : Int32).toInt = 0 by decide) (show (0 : Int32).toInt = 0 by decide)).mpr (by omega)) c_120) (fun c_120 => ?_)
    refine lv_aload_n hx hb dL_isFrameSo_107 rfl (lv_at hl 12 rfl) ?_
    refine z_callG (val := nI (M 8)) (va_runV (As := []) (rest := []) ⟨hx, hb, hml, hown, hts⟩ (pC_received l G H.size ad k_10.1) (cwV 0 hts gL_isFrameSo_X5_received rfl rfl rfl (by decide +kernel) ⟨(Nat.le_of_ble_eq_true rfl), (Nat.le_of_ble_eq_true rfl)⟩) (zV (ci := 5) (q0 := 0) hK hP hD rfl (wCl_0 G ad D_10)) rfl rfl hl.1 rfl (lv_room (Nat.le_of_ble_eq_true rfl)) dL_isFrameSo_108 ⟨(Nat.le_of_ble_eq_true rfl), (Nat.le_of_ble_eq_true rfl)⟩) hP hD hS hA (fun H locs hP hD hS => ?_)
    refine lv_iload hx hb dL_isFrameSo_111 (lv_at hl 9 rfl) ?_
    refine lv_iconst (v := 1) hx hb dL_isFrameSo_113 (by decide) ?_
    refine lv_iadd hx hb dL_isFrameSo_114 ?_
    refine z_top (show nI (N 8) + (1 : Int32) = nI ((N 8) + 1) from nI_add (N 8) 1) ?_
    refine lv_icmp_ne (tgt := 197) hx hb dL_isFrameSo_115 (by decide) (fun c_122 => absurd ((t_eq (nI_toInt (n := (M 8)) (by omega)) (nI_toInt (n := ((N 8) + 1)) (by omega))).mpr (by omega)) c_122) (fun c_122 => ?_)
    refine lv_aload_n hx hb dL_isFrameSo_118 rfl (lv_at hl 12 rfl) ?_
    refine z_callG (val := nI (M 7)) (va_runV (As := []) (rest := []) ⟨hx, hb, hml, hown, hts⟩ (pC_presses l G H.size ad k_10.1) (cwV 0 hts gL_isFrameSo_X5_presses rfl rfl rfl (by decide +kernel) ⟨(Nat.le_of_ble_eq_true rfl), (Nat.le_of_ble_eq_true rfl)⟩) (zV (ci := 5) (q0 := 0) hK hP hD rfl (wCl_0 G ad D_10)) rfl rfl hl.1 rfl (lv_room (Nat.le_of_ble_eq_true rfl)) dL_isFrameSo_119 ⟨(Nat.le_of_ble_eq_true rfl), (Nat.le_of_ble_eq_true rfl)⟩) hP hD hS hA (fun H locs hP hD hS => ?_)
    refine lv_iload hx hb dL_isFrameSo_122 (lv_at hl 8 rfl) ?_
    refine lv_iload hx hb dL_isFrameSo_124 (lv_at hl 2 rfl) ?_
    refine lv_if_ne (tgt := 133) hx hb dL_isFrameSo_126 (by decide) (fun c_124 => absurd ((t_eq (show (0 : Int32).toInt = 0 by decide) (show (0 : Int32).toInt = 0 by decide)).mpr (by omega)) c_124) (fun c_124 => ?_)
    refine lv_iconst (v := 1) hx hb dL_isFrameSo_129 (by decide) ?_
    refine lv_goto (tgt := 134) hx hb dL_isFrameSo_130 (by decide) ?_
    refine lv_iadd hx hb dL_isFrameSo_134 ?_
    refine z_top (show nI (N 7) + (1 : Int32) = nI ((N 7) + 1) from nI_add (N 7) 1) ?_
    refine lv_icmp_ne (tgt := 197) hx hb dL_isFrameSo_135 (by decide) (fun c_125 => absurd ((t_eq (nI_toInt (n := (M 7)) (by omega)) (nI_toInt (n := ((N 7) + 1)) (by omega))).mpr (by omega)) c_125) (fun c_125 => ?_)
    refine lv_aload_n hx hb dL_isFrameSo_138 rfl (lv_at hl 12 rfl) ?_
    refine z_callG (val := nI (rfs M)) (va_runS (As := [.ref ad.2.2.1]) (rest := []) ⟨hx, hb, hml, hown, hts⟩ (pL_refusals l G H.size ad k_10.1) (va_cwS 1 hts gL_isFrameSo_L_refusals rfl rfl rfl (by decide +kernel) ⟨(Nat.le_of_ble_eq_true rfl), (Nat.le_of_ble_eq_true rfl)⟩) (zS hK hP hD) rfl rfl hl.1 rfl (lv_room (Nat.le_of_ble_eq_true rfl)) dL_isFrameSo_139 ⟨(Nat.le_of_ble_eq_true rfl), (Nat.le_of_ble_eq_true rfl)⟩) hP hD hS hA (fun H locs hP hD hS => ?_)
    refine lv_iload hx hb dL_isFrameSo_142 (lv_at hl 3 rfl) ?_
    refine lv_iload hx hb dL_isFrameSo_144 (lv_at hl 2 rfl) ?_
    refine lv_if_le (tgt := 153) hx hb dL_isFrameSo_146 (by decide) (fun c_127 => ?_) (fun c_127 => absurd ((t_le (show (0 : Int32).toInt = 0 by decide) (show (0 : Int32).toInt = 0 by decide)).mpr (by omega)) c_127)
    refine lv_iconst (v := 0) hx hb dL_isFrameSo_153 (by decide) ?_
    refine lv_iadd hx hb dL_isFrameSo_154 ?_
    refine z_top (show nI (rfs N) + (0 : Int32) = nI ((rfs N) + 0) from nI_add (rfs N) 0) ?_
    refine lv_icmp_ne (tgt := 197) hx hb dL_isFrameSo_155 (by decide) (fun c_128 => absurd ((t_eq (nI_toInt (n := (rfs M)) (by omega)) (nI_toInt (n := ((rfs N) + 0)) (by omega))).mpr (by omega)) c_128) (fun c_128 => ?_)
    refine lv_aload_n hx hb dL_isFrameSo_158 rfl (lv_at hl 12 rfl) ?_
    refine z_callG (val := nI (M 1)) (va_runV (As := []) (rest := []) ⟨hx, hb, hml, hown, hts⟩ (pC_gain l G H.size ad k_10.1) (cwV 0 hts gL_isFrameSo_X5_gain rfl rfl rfl (by decide +kernel) ⟨(Nat.le_of_ble_eq_true rfl), (Nat.le_of_ble_eq_true rfl)⟩) (zV (ci := 5) (q0 := 0) hK hP hD rfl (wCl_0 G ad D_10)) rfl rfl hl.1 rfl (lv_room (Nat.le_of_ble_eq_true rfl)) dL_isFrameSo_159 ⟨(Nat.le_of_ble_eq_true rfl), (Nat.le_of_ble_eq_true rfl)⟩) hP hD hS hA (fun H locs hP hD hS => ?_)
    refine lv_iconst (v := 1) hx hb dL_isFrameSo_162 (by decide) ?_
    refine lv_icmp_lt (tgt := 197) hx hb dL_isFrameSo_163 (by decide) (fun c_130 => absurd ((t_lt (nI_toInt (n := (M 1)) (by omega)) (show (1 : Int32).toInt = 1 by decide)).mp c_130) (by omega)) (fun c_130 => ?_)
    refine lv_aload_n hx hb dL_isFrameSo_166 rfl (lv_at hl 12 rfl) ?_
    refine z_callG (val := nI (M 1)) (va_runV (As := []) (rest := []) ⟨hx, hb, hml, hown, hts⟩ (pC_gain l G H.size ad k_10.1) (cwV 0 hts gL_isFrameSo_X5_gain rfl rfl rfl (by decide +kernel) ⟨(Nat.le_of_ble_eq_true rfl), (Nat.le_of_ble_eq_true rfl)⟩) (zV (ci := 5) (q0 := 0) hK hP hD rfl (wCl_0 G ad D_10)) rfl rfl hl.1 rfl (lv_room (Nat.le_of_ble_eq_true rfl)) dL_isFrameSo_167 ⟨(Nat.le_of_ble_eq_true rfl), (Nat.le_of_ble_eq_true rfl)⟩) hP hD hS hA (fun H locs hP hD hS => ?_)
    refine lv_bipush (v := 10) hx hb dL_isFrameSo_170 (by decide) ?_
    refine lv_icmp_gt (tgt := 197) hx hb dL_isFrameSo_172 (by decide) (fun c_132 => absurd ((t_lt (show (10 : Int32).toInt = 10 by decide) (nI_toInt (n := (M 1)) (by omega))).mp c_132) (by omega)) (fun c_132 => ?_)
    refine lv_iload hx hb dL_isFrameSo_175 (lv_at hl 0 rfl) ?_
    refine lv_if_ne (tgt := 193) hx hb dL_isFrameSo_177 (by decide) (fun c_133 => ?_) (fun c_133 => absurd ((t_eq (show (1 : Int32).toInt = 1 by decide) (show (0 : Int32).toInt = 0 by decide)).mp c_133) (by omega))
    refine lv_iconst (v := 1) hx hb dL_isFrameSo_193 (by decide) ?_
    refine lv_goto (tgt := 198) hx hb dL_isFrameSo_194 (by decide) ?_
    refine lv_istore (lv' := [(17, .int 1), (16, .int 1), (15, .int (nI (M 1) - nI (N 1))), (14, .int 0), (13, .int (nI (rfs N))), (12, .int (reV N)), (11, .int (nI (hoV N))), (10, .int (nI (N (16 + c9)))), (9, .int (nI (N (32 + c9)))), (8, .int (nI (N 7))), (7, .int (nI (N 8))), (6, .int (nI (N 1))), (5, .int 0), (0, .ref ad.2.2.1), (1, .int (nI a9)), (2, .int (nI c9)), (3, .int (nI g9)), (4, .int (nI st))]) hx hb dL_isFrameSo_198 hl (by decide) rfl (fun ls hl => ?_)
    refine lv_iload hx hb dL_isFrameSo_200 (lv_at hl 3 rfl) ?_
    refine lv_if_ne (tgt := 262) hx hb dL_isFrameSo_202 (by decide) (fun c_134 => absurd ((t_eq (show (0 : Int32).toInt = 0 by decide) (show (0 : Int32).toInt = 0 by decide)).mpr (by omega)) c_134) (fun c_134 => ?_)
    refine lv_iload hx hb dL_isFrameSo_205 (lv_at hl 0 rfl) ?_
    refine lv_if_eq (tgt := 259) hx hb dL_isFrameSo_207 (by decide) (fun c_135 => absurd ((t_eq (show (1 : Int32).toInt = 1 by decide) (show (0 : Int32).toInt = 0 by decide)).mp c_135) (by omega)) (fun c_135 => ?_)
    refine lv_aload_n hx hb dL_isFrameSo_210 rfl (lv_at hl 13 rfl) ?_
    refine z_callG (val := (reV M)) (va_runV (As := []) (rest := []) ⟨hx, hb, hml, hown, hts⟩ (pC_remembered' l G H.size ad k_10.1 (V := reV M) rfl) (cwV 0 hts gL_isFrameSo_X5_remembered rfl rfl rfl (by decide +kernel) ⟨(Nat.le_of_ble_eq_true rfl), (Nat.le_of_ble_eq_true rfl)⟩) (zV (ci := 5) (q0 := 0) hK hP hD rfl (wCl_0 G ad D_10)) rfl rfl hl.1 rfl (lv_room (Nat.le_of_ble_eq_true rfl)) dL_isFrameSo_211 ⟨(Nat.le_of_ble_eq_true rfl), (Nat.le_of_ble_eq_true rfl)⟩) hP hD hS hA (fun H locs hP hD hS => ?_)
    refine lv_iload_n hx hb dL_isFrameSo_214 rfl (lv_at hl 15 rfl) ?_
    refine lv_icmp_ne (tgt := 259) hx hb dL_isFrameSo_215 (by decide) (fun c_137 => absurd rM c_137) (fun c_137 => ?_)
    refine lv_aload_n hx hb dL_isFrameSo_218 rfl (lv_at hl 13 rfl) ?_
    refine z_callG (val := nI (hoV M)) (va_runV (As := []) (rest := []) ⟨hx, hb, hml, hown, hts⟩ (pC_holds' l G H.size ad k_10.1 (show (if rem M then nI (M 5) else 0) = nI (hoV M) by unfold hoV; split <;> rfl)) (cwV 0 hts gL_isFrameSo_X5_holds rfl rfl rfl (by decide +kernel) ⟨(Nat.le_of_ble_eq_true rfl), (Nat.le_of_ble_eq_true rfl)⟩) (zV (ci := 5) (q0 := 0) hK hP hD rfl (wCl_0 G ad D_10)) rfl rfl hl.1 rfl (lv_room (Nat.le_of_ble_eq_true rfl)) dL_isFrameSo_219 ⟨(Nat.le_of_ble_eq_true rfl), (Nat.le_of_ble_eq_true rfl)⟩) hP hD hS hA (fun H locs hP hD hS => ?_)
    refine lv_if_ne (tgt := 259) hx hb dL_isFrameSo_222 (by decide) (fun c_139 => absurd ((t_eq (nI_toInt (n := (hoV M)) (by omega)) (show (0 : Int32).toInt = 0 by decide)).mpr (by omega)) c_139) (fun c_139 => ?_)
    refine lv_aload_n hx hb dL_isFrameSo_225 rfl (lv_at hl 13 rfl) ?_
    refine z_callG (val := nI 61) (va_runV (As := []) (rest := []) ⟨hx, hb, hml, hown, hts⟩ (pC_ticksToForget' l G H.size ad k_10.1 (V := nI 61) tM) (cwV 0 hts gL_isFrameSo_X5_ticksToForget rfl rfl rfl (by decide +kernel) ⟨(Nat.le_of_ble_eq_true rfl), (Nat.le_of_ble_eq_true rfl)⟩) (zV (ci := 5) (q0 := 0) hK hP hD rfl (wCl_0 G ad D_10)) rfl rfl hl.1 rfl (lv_room (Nat.le_of_ble_eq_true rfl)) dL_isFrameSo_226 ⟨(Nat.le_of_ble_eq_true rfl), (Nat.le_of_ble_eq_true rfl)⟩) hP hD hS hA (fun H locs hP hD hS => ?_)
    refine lv_bipush (v := 61) hx hb dL_isFrameSo_229 (by decide) ?_
    refine lv_icmp_ne (tgt := 259) hx hb dL_isFrameSo_231 (by decide) (fun c_141 => absurd ((t_eq (show (61 : Int32).toInt = 61 by decide) (show (61 : Int32).toInt = 61 by decide)).mpr (by omega)) c_141) (fun c_141 => ?_)
    refine lv_aload_n hx hb dL_isFrameSo_234 rfl (lv_at hl 13 rfl) ?_
    refine lv_iload_n hx hb dL_isFrameSo_235 rfl (lv_at hl 15 rfl) ?_
    refine z_callG (val := nI (M (32 + c9))) (va_runV (As := [.int (nI c9)]) (rest := []) ⟨hx, hb, hml, hown, hts⟩ (pC_done l G H.size ad k_10.1 (k9 := c9) hy9) (cwV 1 hts gL_isFrameSo_X5_done rfl rfl rfl (by decide +kernel) ⟨(Nat.le_of_ble_eq_true rfl), (Nat.le_of_ble_eq_true rfl)⟩) (zV (ci := 5) (q0 := 0) hK hP hD rfl (wCl_0 G ad D_10)) rfl rfl hl.1 rfl (lv_room (Nat.le_of_ble_eq_true rfl)) dL_isFrameSo_236 ⟨(Nat.le_of_ble_eq_true rfl), (Nat.le_of_ble_eq_true rfl)⟩) hP hD hS hA (fun H locs hP hD hS => ?_)
    refine lv_iload hx hb dL_isFrameSo_239 (lv_at hl 8 rfl) ?_
    refine lv_iload hx hb dL_isFrameSo_241 (lv_at hl 7 rfl) ?_
    refine lv_if_le (tgt := 250) hx hb dL_isFrameSo_243 (by decide) (fun c_143 => ?_) (fun c_143 => ?_)
    · have zz : N (16 + c9) = 0 := Nat.le_zero.mp ((z_le (b := 0) rfl rfl (by omega) (by omega)).mp c_143)
      rw [if_pos zz] at rd
      refine lv_iconst (v := 0) hx hb dL_isFrameSo_250 (by decide) ?_
      refine lv_iadd hx hb dL_isFrameSo_251 ?_
      refine z_top (show nI (N (32 + c9)) + (0 : Int32) = nI ((N (32 + c9)) + 0) from nI_add (N (32 + c9)) 0) ?_
      refine lv_icmp_ne (tgt := 259) hx hb dL_isFrameSo_252 (by decide) (fun c_144 => absurd ((t_eq (nI_toInt (n := (M (32 + c9))) (by omega)) (nI_toInt (n := ((N (32 + c9)) + 0)) (by omega))).mpr (by omega)) c_144) (fun c_144 => ?_)
      refine lv_iconst (v := 1) hx hb dL_isFrameSo_255 (by decide) ?_
      refine lv_goto (tgt := 260) hx hb dL_isFrameSo_256 (by decide) ?_
      refine lv_istore (lv' := [(17, .int 1), (16, .int 1), (15, .int (nI (M 1) - nI (N 1))), (14, .int 0), (13, .int (nI (rfs N))), (12, .int (reV N)), (11, .int (nI (hoV N))), (10, .int (nI (N (16 + c9)))), (9, .int (nI (N (32 + c9)))), (8, .int (nI (N 7))), (7, .int (nI (N 8))), (6, .int (nI (N 1))), (5, .int 0), (0, .ref ad.2.2.1), (1, .int (nI a9)), (2, .int (nI c9)), (3, .int (nI g9)), (4, .int (nI st))]) hx hb dL_isFrameSo_260 hl (by decide) rfl (fun ls hl => ?_)
      refine lv_iload hx hb dL_isFrameSo_262 (lv_at hl 3 rfl) ?_
      refine lv_iconst (v := -1) hx hb dL_isFrameSo_264 (by decide) ?_
      refine lv_icmp_ne (tgt := 345) hx hb dL_isFrameSo_265 (by decide) (fun c_145 => ?_) (fun c_145 => absurd ((t_eq (show (0 : Int32).toInt = 0 by decide) (show (-1 : Int32).toInt = -1 by decide)).mp c_145) (by omega))
      refine lv_iload hx hb dL_isFrameSo_345 (lv_at hl 3 rfl) ?_
      refine lv_if_le (tgt := 397) hx hb dL_isFrameSo_347 (by decide) (fun c_146 => ?_) (fun c_146 => absurd ((t_le (show (0 : Int32).toInt = 0 by decide) (show (0 : Int32).toInt = 0 by decide)).mpr (by omega)) c_146)
      refine lv_iload hx hb dL_isFrameSo_397 (lv_at hl 3 rfl) ?_
      refine lv_if_gt (tgt := 457) hx hb dL_isFrameSo_399 (by decide) (fun c_147 => absurd ((t_lt (show (0 : Int32).toInt = 0 by decide) (show (0 : Int32).toInt = 0 by decide)).mp c_147) (by omega)) (fun c_147 => ?_)
      refine lv_aload_n hx hb dL_isFrameSo_402 rfl (lv_at hl 13 rfl) ?_
      refine z_callG (val := nI (M 0)) (va_runV (As := []) (rest := []) ⟨hx, hb, hml, hown, hts⟩ (pC_glare l G H.size ad k_10.1) (cwV 0 hts gL_isFrameSo_X5_glare rfl rfl rfl (by decide +kernel) ⟨(Nat.le_of_ble_eq_true rfl), (Nat.le_of_ble_eq_true rfl)⟩) (zV (ci := 5) (q0 := 0) hK hP hD rfl (wCl_0 G ad D_10)) rfl rfl hl.1 rfl (lv_room (Nat.le_of_ble_eq_true rfl)) dL_isFrameSo_403 ⟨(Nat.le_of_ble_eq_true rfl), (Nat.le_of_ble_eq_true rfl)⟩) hP hD hS hA (fun H locs hP hD hS => ?_)
      refine lv_if_ne (tgt := 457) hx hb dL_isFrameSo_406 (by decide) (fun c_149 => ?_) (fun c_149 => ?_)
      · refine lv_aload_n hx hb dL_isFrameSo_457 rfl (lv_at hl 13 rfl) ?_
        refine z_callA (va_runV (As := []) (rest := []) ⟨hx, hb, hml, hown, hts⟩ (pC_undo' l G H.size ad k_10.1 k_10.2) (cwV 0 hts gL_isFrameSo_X5_undo rfl rfl rfl (by decide +kernel) ⟨(Nat.le_of_ble_eq_true rfl), (Nat.le_of_ble_eq_true rfl)⟩) (zV (ci := 5) (q0 := 0) hK hP hD rfl (wCl_0 G ad D_10)) rfl rfl hl.1 rfl (lv_room (Nat.le_of_ble_eq_true rfl)) dL_isFrameSo_458 ⟨(Nat.le_of_ble_eq_true rfl), (Nat.le_of_ble_eq_true rfl)⟩) hP hD hS hA (fun v_150 D_150 H locs k_150 hP hD hS => ?_)
        obtain ⟨⟨j9, j1, rfl⟩, ⟨m9, M9, k9J⟩, k9U⟩ := k_150
        have hJ9 := Ud_J k9U k9J
        refine lv_istore (lv' := [(18, .int (nI j9)), (17, .int 1), (16, .int 1), (15, .int (nI (M 1) - nI (N 1))), (14, .int 0), (13, .int (nI (rfs N))), (12, .int (reV N)), (11, .int (nI (hoV N))), (10, .int (nI (N (16 + c9)))), (9, .int (nI (N (32 + c9)))), (8, .int (nI (N 7))), (7, .int (nI (N 8))), (6, .int (nI (N 1))), (5, .int 0), (0, .ref ad.2.2.1), (1, .int (nI a9)), (2, .int (nI c9)), (3, .int (nI g9)), (4, .int (nI st))]) hx hb dL_isFrameSo_461 hl (by decide) rfl (fun ls hl => ?_)
        refine lv_iload hx hb dL_isFrameSo_463 (lv_at hl 1 rfl) ?_
        refine lv_if_eq (tgt := 504) hx hb dL_isFrameSo_465 (by decide) (fun c_151 => absurd ((t_eq (show (1 : Int32).toInt = 1 by decide) (show (0 : Int32).toInt = 0 by decide)).mp c_151) (by omega)) (fun c_151 => ?_)
        refine lv_iload hx hb dL_isFrameSo_468 (lv_at hl 0 rfl) ?_
        refine lv_if_lt (tgt := 504) hx hb dL_isFrameSo_470 (by decide) (fun c_152 => absurd ((t_lt (nI_toInt (n := j9) (by omega)) (show (0 : Int32).toInt = 0 by decide)).mp c_152) (by omega)) (fun c_152 => ?_)
        refine lv_aload_n hx hb dL_isFrameSo_473 rfl (lv_at hl 14 rfl) ?_
        refine z_callG (val := nI (N 8)) (va_runV (As := []) (rest := []) ⟨hx, hb, hml, hown, hts⟩ (pC_received l G H.size ad hJ9) (cwV 0 hts gL_isFrameSo_X5_received rfl rfl rfl (by decide +kernel) ⟨(Nat.le_of_ble_eq_true rfl), (Nat.le_of_ble_eq_true rfl)⟩) (zV (ci := 5) (q0 := 0) hK hP hD rfl (wCl_0 G ad D_150)) rfl rfl hl.1 rfl (lv_room (Nat.le_of_ble_eq_true rfl)) dL_isFrameSo_474 ⟨(Nat.le_of_ble_eq_true rfl), (Nat.le_of_ble_eq_true rfl)⟩) hP hD hS hA (fun H locs hP hD hS => ?_)
        refine lv_iload hx hb dL_isFrameSo_477 (lv_at hl 11 rfl) ?_
        refine lv_icmp_ne (tgt := 504) hx hb dL_isFrameSo_479 (by decide) (fun c_154 => absurd ((t_eq (nI_toInt (n := (N 8)) (by omega)) (nI_toInt (n := (N 8)) (by omega))).mpr (by omega)) c_154) (fun c_154 => ?_)
        refine lv_aload_n hx hb dL_isFrameSo_482 rfl (lv_at hl 14 rfl) ?_
        refine z_callG (val := nI (N 1)) (va_runV (As := []) (rest := []) ⟨hx, hb, hml, hown, hts⟩ (pC_gain l G H.size ad hJ9) (cwV 0 hts gL_isFrameSo_X5_gain rfl rfl rfl (by decide +kernel) ⟨(Nat.le_of_ble_eq_true rfl), (Nat.le_of_ble_eq_true rfl)⟩) (zV (ci := 5) (q0 := 0) hK hP hD rfl (wCl_0 G ad D_150)) rfl rfl hl.1 rfl (lv_room (Nat.le_of_ble_eq_true rfl)) dL_isFrameSo_483 ⟨(Nat.le_of_ble_eq_true rfl), (Nat.le_of_ble_eq_true rfl)⟩) hP hD hS hA (fun H locs hP hD hS => ?_)
        refine lv_iload hx hb dL_isFrameSo_486 (lv_at hl 12 rfl) ?_
        refine lv_icmp_ne (tgt := 504) hx hb dL_isFrameSo_488 (by decide) (fun c_156 => absurd ((t_eq (nI_toInt (n := (N 1)) (by omega)) (nI_toInt (n := (N 1)) (by omega))).mpr (by omega)) c_156) (fun c_156 => ?_)
        refine lv_aload_n hx hb dL_isFrameSo_491 rfl (lv_at hl 14 rfl) ?_
        refine z_callG (val := nI (hoV N)) (va_runV (As := []) (rest := []) ⟨hx, hb, hml, hown, hts⟩ (pC_holds' l G H.size ad hJ9 (show (if rem N then nI (N 5) else 0) = nI (hoV N) by unfold hoV; split <;> rfl)) (cwV 0 hts gL_isFrameSo_X5_holds rfl rfl rfl (by decide +kernel) ⟨(Nat.le_of_ble_eq_true rfl), (Nat.le_of_ble_eq_true rfl)⟩) (zV (ci := 5) (q0 := 0) hK hP hD rfl (wCl_0 G ad D_150)) rfl rfl hl.1 rfl (lv_room (Nat.le_of_ble_eq_true rfl)) dL_isFrameSo_492 ⟨(Nat.le_of_ble_eq_true rfl), (Nat.le_of_ble_eq_true rfl)⟩) hP hD hS hA (fun H locs hP hD hS => ?_)
        refine lv_iload hx hb dL_isFrameSo_495 (lv_at hl 7 rfl) ?_
        refine lv_icmp_ne (tgt := 504) hx hb dL_isFrameSo_497 (by decide) (fun c_158 => absurd ((t_eq (nI_toInt (n := (hoV N)) (by omega)) (nI_toInt (n := (hoV N)) (by omega))).mpr (by omega)) c_158) (fun c_158 => ?_)
        refine lv_iconst (v := 1) hx hb dL_isFrameSo_500 (by decide) ?_
        refine lv_goto (tgt := 505) hx hb dL_isFrameSo_501 (by decide) ?_
        exact z_iret hx hb hr rfl hlocks D_150 hP hD hS (Nat.le_of_ble_eq_true rfl) (Nat.le_of_ble_eq_true rfl) dL_isFrameSo_505 ⟨rfl, hJ9⟩
      · refine lv_aload_n hx hb dL_isFrameSo_409 rfl (lv_at hl 13 rfl) ?_
        refine z_callG (val := nI (M 1)) (va_runV (As := []) (rest := []) ⟨hx, hb, hml, hown, hts⟩ (pC_gain l G H.size ad k_10.1) (cwV 0 hts gL_isFrameSo_X5_gain rfl rfl rfl (by decide +kernel) ⟨(Nat.le_of_ble_eq_true rfl), (Nat.le_of_ble_eq_true rfl)⟩) (zV (ci := 5) (q0 := 0) hK hP hD rfl (wCl_0 G ad D_10)) rfl rfl hl.1 rfl (lv_room (Nat.le_of_ble_eq_true rfl)) dL_isFrameSo_410 ⟨(Nat.le_of_ble_eq_true rfl), (Nat.le_of_ble_eq_true rfl)⟩) hP hD hS hA (fun H locs hP hD hS => ?_)
        refine lv_bipush (v := 10) hx hb dL_isFrameSo_413 (by decide) ?_
        refine lv_icmp_ne (tgt := 457) hx hb dL_isFrameSo_415 (by decide) (fun c_160 => ?_) (fun c_160 => ?_)
        · refine lv_aload_n hx hb dL_isFrameSo_457 rfl (lv_at hl 13 rfl) ?_
          refine z_callA (va_runV (As := []) (rest := []) ⟨hx, hb, hml, hown, hts⟩ (pC_undo' l G H.size ad k_10.1 k_10.2) (cwV 0 hts gL_isFrameSo_X5_undo rfl rfl rfl (by decide +kernel) ⟨(Nat.le_of_ble_eq_true rfl), (Nat.le_of_ble_eq_true rfl)⟩) (zV (ci := 5) (q0 := 0) hK hP hD rfl (wCl_0 G ad D_10)) rfl rfl hl.1 rfl (lv_room (Nat.le_of_ble_eq_true rfl)) dL_isFrameSo_458 ⟨(Nat.le_of_ble_eq_true rfl), (Nat.le_of_ble_eq_true rfl)⟩) hP hD hS hA (fun v_161 D_161 H locs k_161 hP hD hS => ?_)
          obtain ⟨⟨j9, j1, rfl⟩, ⟨m9, M9, k9J⟩, k9U⟩ := k_161
          have hJ9 := Ud_J k9U k9J
          refine lv_istore (lv' := [(18, .int (nI j9)), (17, .int 1), (16, .int 1), (15, .int (nI (M 1) - nI (N 1))), (14, .int 0), (13, .int (nI (rfs N))), (12, .int (reV N)), (11, .int (nI (hoV N))), (10, .int (nI (N (16 + c9)))), (9, .int (nI (N (32 + c9)))), (8, .int (nI (N 7))), (7, .int (nI (N 8))), (6, .int (nI (N 1))), (5, .int 0), (0, .ref ad.2.2.1), (1, .int (nI a9)), (2, .int (nI c9)), (3, .int (nI g9)), (4, .int (nI st))]) hx hb dL_isFrameSo_461 hl (by decide) rfl (fun ls hl => ?_)
          refine lv_iload hx hb dL_isFrameSo_463 (lv_at hl 1 rfl) ?_
          refine lv_if_eq (tgt := 504) hx hb dL_isFrameSo_465 (by decide) (fun c_162 => absurd ((t_eq (show (1 : Int32).toInt = 1 by decide) (show (0 : Int32).toInt = 0 by decide)).mp c_162) (by omega)) (fun c_162 => ?_)
          refine lv_iload hx hb dL_isFrameSo_468 (lv_at hl 0 rfl) ?_
          refine lv_if_lt (tgt := 504) hx hb dL_isFrameSo_470 (by decide) (fun c_163 => absurd ((t_lt (nI_toInt (n := j9) (by omega)) (show (0 : Int32).toInt = 0 by decide)).mp c_163) (by omega)) (fun c_163 => ?_)
          refine lv_aload_n hx hb dL_isFrameSo_473 rfl (lv_at hl 14 rfl) ?_
          refine z_callG (val := nI (N 8)) (va_runV (As := []) (rest := []) ⟨hx, hb, hml, hown, hts⟩ (pC_received l G H.size ad hJ9) (cwV 0 hts gL_isFrameSo_X5_received rfl rfl rfl (by decide +kernel) ⟨(Nat.le_of_ble_eq_true rfl), (Nat.le_of_ble_eq_true rfl)⟩) (zV (ci := 5) (q0 := 0) hK hP hD rfl (wCl_0 G ad D_161)) rfl rfl hl.1 rfl (lv_room (Nat.le_of_ble_eq_true rfl)) dL_isFrameSo_474 ⟨(Nat.le_of_ble_eq_true rfl), (Nat.le_of_ble_eq_true rfl)⟩) hP hD hS hA (fun H locs hP hD hS => ?_)
          refine lv_iload hx hb dL_isFrameSo_477 (lv_at hl 11 rfl) ?_
          refine lv_icmp_ne (tgt := 504) hx hb dL_isFrameSo_479 (by decide) (fun c_165 => absurd ((t_eq (nI_toInt (n := (N 8)) (by omega)) (nI_toInt (n := (N 8)) (by omega))).mpr (by omega)) c_165) (fun c_165 => ?_)
          refine lv_aload_n hx hb dL_isFrameSo_482 rfl (lv_at hl 14 rfl) ?_
          refine z_callG (val := nI (N 1)) (va_runV (As := []) (rest := []) ⟨hx, hb, hml, hown, hts⟩ (pC_gain l G H.size ad hJ9) (cwV 0 hts gL_isFrameSo_X5_gain rfl rfl rfl (by decide +kernel) ⟨(Nat.le_of_ble_eq_true rfl), (Nat.le_of_ble_eq_true rfl)⟩) (zV (ci := 5) (q0 := 0) hK hP hD rfl (wCl_0 G ad D_161)) rfl rfl hl.1 rfl (lv_room (Nat.le_of_ble_eq_true rfl)) dL_isFrameSo_483 ⟨(Nat.le_of_ble_eq_true rfl), (Nat.le_of_ble_eq_true rfl)⟩) hP hD hS hA (fun H locs hP hD hS => ?_)
          refine lv_iload hx hb dL_isFrameSo_486 (lv_at hl 12 rfl) ?_
          refine lv_icmp_ne (tgt := 504) hx hb dL_isFrameSo_488 (by decide) (fun c_167 => absurd ((t_eq (nI_toInt (n := (N 1)) (by omega)) (nI_toInt (n := (N 1)) (by omega))).mpr (by omega)) c_167) (fun c_167 => ?_)
          refine lv_aload_n hx hb dL_isFrameSo_491 rfl (lv_at hl 14 rfl) ?_
          refine z_callG (val := nI (hoV N)) (va_runV (As := []) (rest := []) ⟨hx, hb, hml, hown, hts⟩ (pC_holds' l G H.size ad hJ9 (show (if rem N then nI (N 5) else 0) = nI (hoV N) by unfold hoV; split <;> rfl)) (cwV 0 hts gL_isFrameSo_X5_holds rfl rfl rfl (by decide +kernel) ⟨(Nat.le_of_ble_eq_true rfl), (Nat.le_of_ble_eq_true rfl)⟩) (zV (ci := 5) (q0 := 0) hK hP hD rfl (wCl_0 G ad D_161)) rfl rfl hl.1 rfl (lv_room (Nat.le_of_ble_eq_true rfl)) dL_isFrameSo_492 ⟨(Nat.le_of_ble_eq_true rfl), (Nat.le_of_ble_eq_true rfl)⟩) hP hD hS hA (fun H locs hP hD hS => ?_)
          refine lv_iload hx hb dL_isFrameSo_495 (lv_at hl 7 rfl) ?_
          refine lv_icmp_ne (tgt := 504) hx hb dL_isFrameSo_497 (by decide) (fun c_169 => absurd ((t_eq (nI_toInt (n := (hoV N)) (by omega)) (nI_toInt (n := (hoV N)) (by omega))).mpr (by omega)) c_169) (fun c_169 => ?_)
          refine lv_iconst (v := 1) hx hb dL_isFrameSo_500 (by decide) ?_
          refine lv_goto (tgt := 505) hx hb dL_isFrameSo_501 (by decide) ?_
          exact z_iret hx hb hr rfl hlocks D_161 hP hD hS (Nat.le_of_ble_eq_true rfl) (Nat.le_of_ble_eq_true rfl) dL_isFrameSo_505 ⟨rfl, hJ9⟩
        · refine lv_iload hx hb dL_isFrameSo_418 (lv_at hl 0 rfl) ?_
          refine lv_if_eq (tgt := 454) hx hb dL_isFrameSo_420 (by decide) (fun c_170 => absurd ((t_eq (show (1 : Int32).toInt = 1 by decide) (show (0 : Int32).toInt = 0 by decide)).mp c_170) (by omega)) (fun c_170 => ?_)
          have z0 : M 0 = 0 := (z_eq (b := 0) rfl rfl (by omega) (by omega)).mp c_149
          have z1 : M 1 = 10 := (z_eq (b := 10) rfl rfl (by omega) (by omega)).mp c_160
          have nb : ¬ bad M 10 := by
            unfold bad
            rw [z0, z1]
            omega
          have i1 : (frV M a9 c9 g9 10).1 = -1 := by rw [fr_two hx9 hy9 ht9 nb (by omega), if_pos ⟨rM1, by omega, by omega⟩]
          have i2 : (frV M a9 c9 (1 - g9) 10).1 = 0 := by rw [fr_two hx9 hy9 (show 1 - g9 < 2 by omega) nb (by omega), if_neg (fun z => absurd z.2.2 (by omega))]
          refine lv_aload_n hx hb dL_isFrameSo_423 rfl (lv_at hl 13 rfl) ?_
          refine lv_iload_n hx hb dL_isFrameSo_424 rfl (lv_at hl 14 rfl) ?_
          refine lv_iload_n hx hb dL_isFrameSo_425 rfl (lv_at hl 15 rfl) ?_
          refine lv_iload_n hx hb dL_isFrameSo_426 rfl (lv_at hl 16 rfl) ?_
          refine lv_bipush (v := 10) hx hb dL_isFrameSo_427 (by decide) ?_
          refine z_callM (val := (-1)) (va_runV (As := [.int (nI a9), .int (nI c9), .int (nI g9), .int 10]) (rest := []) ⟨hx, hb, hml, hown, hts⟩ (pC_ifFrame' l G H.size ad k_10.1 k_10.2 (a9 := a9) (c9 := c9) (g9 := g9) (st := 10) hx9 hy9 ht9 (Nat.le_of_ble_eq_true rfl) (Nat.le_of_ble_eq_true rfl) (V := -1) i1) (cwV 4 hts gL_isFrameSo_X5_ifFrame rfl rfl rfl (by decide +kernel) ⟨(Nat.le_of_ble_eq_true rfl), (Nat.le_of_ble_eq_true rfl)⟩) (zV (ci := 5) (q0 := 0) hK hP hD rfl (wCl_0 G ad D_10)) rfl rfl hl.1 rfl (lv_room (Nat.le_of_ble_eq_true rfl)) dL_isFrameSo_429 ⟨(Nat.le_of_ble_eq_true rfl), (Nat.le_of_ble_eq_true rfl)⟩) hP hD hS hA (fun D_171 H locs k_171 hP hD hS => ?_)
          refine lv_iconst (v := -1) hx hb dL_isFrameSo_432 (by decide) ?_
          refine lv_icmp_ne (tgt := 454) hx hb dL_isFrameSo_433 (by decide) (fun c_172 => absurd ((t_eq (show (-1 : Int32).toInt = -1 by decide) (show (-1 : Int32).toInt = -1 by decide)).mpr (by omega)) c_172) (fun c_172 => ?_)
          refine lv_aload_n hx hb dL_isFrameSo_436 rfl (lv_at hl 13 rfl) ?_
          refine lv_iload_n hx hb dL_isFrameSo_437 rfl (lv_at hl 14 rfl) ?_
          refine lv_iload_n hx hb dL_isFrameSo_438 rfl (lv_at hl 15 rfl) ?_
          refine lv_iconst (v := 1) hx hb dL_isFrameSo_439 (by decide) ?_
          refine lv_iload_n hx hb dL_isFrameSo_440 rfl (lv_at hl 16 rfl) ?_
          refine lv_isub hx hb dL_isFrameSo_441 ?_
          refine z_top (show (1 : Int32) - (nI g9) = nI (1 - g9) from pk_sub (a := 1) (b := g9) (by omega)) ?_
          refine lv_bipush (v := 10) hx hb dL_isFrameSo_442 (by decide) ?_
          refine z_callM (val := 0) (va_runV (As := [.int (nI a9), .int (nI c9), .int (nI (1 - g9)), .int 10]) (rest := []) ⟨hx, hb, hml, hown, hts⟩ (pC_ifFrame' l G H.size ad k_171.1 k_171.2 (a9 := a9) (c9 := c9) (g9 := (1 - g9)) (st := 10) hx9 hy9 (show 1 - g9 < 2 by omega) (Nat.le_of_ble_eq_true rfl) (Nat.le_of_ble_eq_true rfl) (V := 0) i2) (cwV 4 hts gL_isFrameSo_X5_ifFrame rfl rfl rfl (by decide +kernel) ⟨(Nat.le_of_ble_eq_true rfl), (Nat.le_of_ble_eq_true rfl)⟩) (zV (ci := 5) (q0 := 0) hK hP hD rfl (wCl_0 G ad D_171)) rfl rfl hl.1 rfl (lv_room (Nat.le_of_ble_eq_true rfl)) dL_isFrameSo_444 ⟨(Nat.le_of_ble_eq_true rfl), (Nat.le_of_ble_eq_true rfl)⟩) hP hD hS hA (fun D_173 H locs k_173 hP hD hS => ?_)
          refine lv_if_ne (tgt := 454) hx hb dL_isFrameSo_447 (by decide) (fun c_174 => absurd ((t_eq (show (0 : Int32).toInt = 0 by decide) (show (0 : Int32).toInt = 0 by decide)).mpr (by omega)) c_174) (fun c_174 => ?_)
          refine lv_iconst (v := 1) hx hb dL_isFrameSo_450 (by decide) ?_
          refine lv_goto (tgt := 455) hx hb dL_isFrameSo_451 (by decide) ?_
          refine lv_istore (lv' := [(17, .int 1), (16, .int 1), (15, .int (nI (M 1) - nI (N 1))), (14, .int 0), (13, .int (nI (rfs N))), (12, .int (reV N)), (11, .int (nI (hoV N))), (10, .int (nI (N (16 + c9)))), (9, .int (nI (N (32 + c9)))), (8, .int (nI (N 7))), (7, .int (nI (N 8))), (6, .int (nI (N 1))), (5, .int 0), (0, .ref ad.2.2.1), (1, .int (nI a9)), (2, .int (nI c9)), (3, .int (nI g9)), (4, .int (nI st))]) hx hb dL_isFrameSo_455 hl (by decide) rfl (fun ls hl => ?_)
          refine lv_aload_n hx hb dL_isFrameSo_457 rfl (lv_at hl 13 rfl) ?_
          refine z_callA (va_runV (As := []) (rest := []) ⟨hx, hb, hml, hown, hts⟩ (pC_undo' l G H.size ad k_173.1 k_173.2) (cwV 0 hts gL_isFrameSo_X5_undo rfl rfl rfl (by decide +kernel) ⟨(Nat.le_of_ble_eq_true rfl), (Nat.le_of_ble_eq_true rfl)⟩) (zV (ci := 5) (q0 := 0) hK hP hD rfl (wCl_0 G ad D_173)) rfl rfl hl.1 rfl (lv_room (Nat.le_of_ble_eq_true rfl)) dL_isFrameSo_458 ⟨(Nat.le_of_ble_eq_true rfl), (Nat.le_of_ble_eq_true rfl)⟩) hP hD hS hA (fun v_175 D_175 H locs k_175 hP hD hS => ?_)
          obtain ⟨⟨j9, j1, rfl⟩, ⟨m9, M9, k9J⟩, k9U⟩ := k_175
          have hJ9 := Ud_J k9U k9J
          refine lv_istore (lv' := [(18, .int (nI j9)), (17, .int 1), (16, .int 1), (15, .int (nI (M 1) - nI (N 1))), (14, .int 0), (13, .int (nI (rfs N))), (12, .int (reV N)), (11, .int (nI (hoV N))), (10, .int (nI (N (16 + c9)))), (9, .int (nI (N (32 + c9)))), (8, .int (nI (N 7))), (7, .int (nI (N 8))), (6, .int (nI (N 1))), (5, .int 0), (0, .ref ad.2.2.1), (1, .int (nI a9)), (2, .int (nI c9)), (3, .int (nI g9)), (4, .int (nI st))]) hx hb dL_isFrameSo_461 hl (by decide) rfl (fun ls hl => ?_)
          refine lv_iload hx hb dL_isFrameSo_463 (lv_at hl 1 rfl) ?_
          refine lv_if_eq (tgt := 504) hx hb dL_isFrameSo_465 (by decide) (fun c_176 => absurd ((t_eq (show (1 : Int32).toInt = 1 by decide) (show (0 : Int32).toInt = 0 by decide)).mp c_176) (by omega)) (fun c_176 => ?_)
          refine lv_iload hx hb dL_isFrameSo_468 (lv_at hl 0 rfl) ?_
          refine lv_if_lt (tgt := 504) hx hb dL_isFrameSo_470 (by decide) (fun c_177 => absurd ((t_lt (nI_toInt (n := j9) (by omega)) (show (0 : Int32).toInt = 0 by decide)).mp c_177) (by omega)) (fun c_177 => ?_)
          refine lv_aload_n hx hb dL_isFrameSo_473 rfl (lv_at hl 14 rfl) ?_
          refine z_callG (val := nI (N 8)) (va_runV (As := []) (rest := []) ⟨hx, hb, hml, hown, hts⟩ (pC_received l G H.size ad hJ9) (cwV 0 hts gL_isFrameSo_X5_received rfl rfl rfl (by decide +kernel) ⟨(Nat.le_of_ble_eq_true rfl), (Nat.le_of_ble_eq_true rfl)⟩) (zV (ci := 5) (q0 := 0) hK hP hD rfl (wCl_0 G ad D_175)) rfl rfl hl.1 rfl (lv_room (Nat.le_of_ble_eq_true rfl)) dL_isFrameSo_474 ⟨(Nat.le_of_ble_eq_true rfl), (Nat.le_of_ble_eq_true rfl)⟩) hP hD hS hA (fun H locs hP hD hS => ?_)
          refine lv_iload hx hb dL_isFrameSo_477 (lv_at hl 11 rfl) ?_
          refine lv_icmp_ne (tgt := 504) hx hb dL_isFrameSo_479 (by decide) (fun c_179 => absurd ((t_eq (nI_toInt (n := (N 8)) (by omega)) (nI_toInt (n := (N 8)) (by omega))).mpr (by omega)) c_179) (fun c_179 => ?_)
          refine lv_aload_n hx hb dL_isFrameSo_482 rfl (lv_at hl 14 rfl) ?_
          refine z_callG (val := nI (N 1)) (va_runV (As := []) (rest := []) ⟨hx, hb, hml, hown, hts⟩ (pC_gain l G H.size ad hJ9) (cwV 0 hts gL_isFrameSo_X5_gain rfl rfl rfl (by decide +kernel) ⟨(Nat.le_of_ble_eq_true rfl), (Nat.le_of_ble_eq_true rfl)⟩) (zV (ci := 5) (q0 := 0) hK hP hD rfl (wCl_0 G ad D_175)) rfl rfl hl.1 rfl (lv_room (Nat.le_of_ble_eq_true rfl)) dL_isFrameSo_483 ⟨(Nat.le_of_ble_eq_true rfl), (Nat.le_of_ble_eq_true rfl)⟩) hP hD hS hA (fun H locs hP hD hS => ?_)
          refine lv_iload hx hb dL_isFrameSo_486 (lv_at hl 12 rfl) ?_
          refine lv_icmp_ne (tgt := 504) hx hb dL_isFrameSo_488 (by decide) (fun c_181 => absurd ((t_eq (nI_toInt (n := (N 1)) (by omega)) (nI_toInt (n := (N 1)) (by omega))).mpr (by omega)) c_181) (fun c_181 => ?_)
          refine lv_aload_n hx hb dL_isFrameSo_491 rfl (lv_at hl 14 rfl) ?_
          refine z_callG (val := nI (hoV N)) (va_runV (As := []) (rest := []) ⟨hx, hb, hml, hown, hts⟩ (pC_holds' l G H.size ad hJ9 (show (if rem N then nI (N 5) else 0) = nI (hoV N) by unfold hoV; split <;> rfl)) (cwV 0 hts gL_isFrameSo_X5_holds rfl rfl rfl (by decide +kernel) ⟨(Nat.le_of_ble_eq_true rfl), (Nat.le_of_ble_eq_true rfl)⟩) (zV (ci := 5) (q0 := 0) hK hP hD rfl (wCl_0 G ad D_175)) rfl rfl hl.1 rfl (lv_room (Nat.le_of_ble_eq_true rfl)) dL_isFrameSo_492 ⟨(Nat.le_of_ble_eq_true rfl), (Nat.le_of_ble_eq_true rfl)⟩) hP hD hS hA (fun H locs hP hD hS => ?_)
          refine lv_iload hx hb dL_isFrameSo_495 (lv_at hl 7 rfl) ?_
          refine lv_icmp_ne (tgt := 504) hx hb dL_isFrameSo_497 (by decide) (fun c_183 => absurd ((t_eq (nI_toInt (n := (hoV N)) (by omega)) (nI_toInt (n := (hoV N)) (by omega))).mpr (by omega)) c_183) (fun c_183 => ?_)
          refine lv_iconst (v := 1) hx hb dL_isFrameSo_500 (by decide) ?_
          refine lv_goto (tgt := 505) hx hb dL_isFrameSo_501 (by decide) ?_
          exact z_iret hx hb hr rfl hlocks D_175 hP hD hS (Nat.le_of_ble_eq_true rfl) (Nat.le_of_ble_eq_true rfl) dL_isFrameSo_505 ⟨rfl, hJ9⟩
    · have zz : ¬ N (16 + c9) = 0 := fun y => c_143 ((z_le (b := 0) rfl rfl (by omega) (by omega)).mpr (Nat.le_of_eq y))
      rw [if_neg zz] at rd
      refine lv_iconst (v := 1) hx hb dL_isFrameSo_246 (by decide) ?_
      refine lv_goto (tgt := 251) hx hb dL_isFrameSo_247 (by decide) ?_
      refine lv_iadd hx hb dL_isFrameSo_251 ?_
      refine z_top (show nI (N (32 + c9)) + (1 : Int32) = nI ((N (32 + c9)) + 1) from nI_add (N (32 + c9)) 1) ?_
      refine lv_icmp_ne (tgt := 259) hx hb dL_isFrameSo_252 (by decide) (fun c_184 => absurd ((t_eq (nI_toInt (n := (M (32 + c9))) (by omega)) (nI_toInt (n := ((N (32 + c9)) + 1)) (by omega))).mpr (by omega)) c_184) (fun c_184 => ?_)
      refine lv_iconst (v := 1) hx hb dL_isFrameSo_255 (by decide) ?_
      refine lv_goto (tgt := 260) hx hb dL_isFrameSo_256 (by decide) ?_
      refine lv_istore (lv' := [(17, .int 1), (16, .int 1), (15, .int (nI (M 1) - nI (N 1))), (14, .int 0), (13, .int (nI (rfs N))), (12, .int (reV N)), (11, .int (nI (hoV N))), (10, .int (nI (N (16 + c9)))), (9, .int (nI (N (32 + c9)))), (8, .int (nI (N 7))), (7, .int (nI (N 8))), (6, .int (nI (N 1))), (5, .int 0), (0, .ref ad.2.2.1), (1, .int (nI a9)), (2, .int (nI c9)), (3, .int (nI g9)), (4, .int (nI st))]) hx hb dL_isFrameSo_260 hl (by decide) rfl (fun ls hl => ?_)
      refine lv_iload hx hb dL_isFrameSo_262 (lv_at hl 3 rfl) ?_
      refine lv_iconst (v := -1) hx hb dL_isFrameSo_264 (by decide) ?_
      refine lv_icmp_ne (tgt := 345) hx hb dL_isFrameSo_265 (by decide) (fun c_185 => ?_) (fun c_185 => absurd ((t_eq (show (0 : Int32).toInt = 0 by decide) (show (-1 : Int32).toInt = -1 by decide)).mp c_185) (by omega))
      refine lv_iload hx hb dL_isFrameSo_345 (lv_at hl 3 rfl) ?_
      refine lv_if_le (tgt := 397) hx hb dL_isFrameSo_347 (by decide) (fun c_186 => ?_) (fun c_186 => absurd ((t_le (show (0 : Int32).toInt = 0 by decide) (show (0 : Int32).toInt = 0 by decide)).mpr (by omega)) c_186)
      refine lv_iload hx hb dL_isFrameSo_397 (lv_at hl 3 rfl) ?_
      refine lv_if_gt (tgt := 457) hx hb dL_isFrameSo_399 (by decide) (fun c_187 => absurd ((t_lt (show (0 : Int32).toInt = 0 by decide) (show (0 : Int32).toInt = 0 by decide)).mp c_187) (by omega)) (fun c_187 => ?_)
      refine lv_aload_n hx hb dL_isFrameSo_402 rfl (lv_at hl 13 rfl) ?_
      refine z_callG (val := nI (M 0)) (va_runV (As := []) (rest := []) ⟨hx, hb, hml, hown, hts⟩ (pC_glare l G H.size ad k_10.1) (cwV 0 hts gL_isFrameSo_X5_glare rfl rfl rfl (by decide +kernel) ⟨(Nat.le_of_ble_eq_true rfl), (Nat.le_of_ble_eq_true rfl)⟩) (zV (ci := 5) (q0 := 0) hK hP hD rfl (wCl_0 G ad D_10)) rfl rfl hl.1 rfl (lv_room (Nat.le_of_ble_eq_true rfl)) dL_isFrameSo_403 ⟨(Nat.le_of_ble_eq_true rfl), (Nat.le_of_ble_eq_true rfl)⟩) hP hD hS hA (fun H locs hP hD hS => ?_)
      refine lv_if_ne (tgt := 457) hx hb dL_isFrameSo_406 (by decide) (fun c_189 => ?_) (fun c_189 => ?_)
      · refine lv_aload_n hx hb dL_isFrameSo_457 rfl (lv_at hl 13 rfl) ?_
        refine z_callA (va_runV (As := []) (rest := []) ⟨hx, hb, hml, hown, hts⟩ (pC_undo' l G H.size ad k_10.1 k_10.2) (cwV 0 hts gL_isFrameSo_X5_undo rfl rfl rfl (by decide +kernel) ⟨(Nat.le_of_ble_eq_true rfl), (Nat.le_of_ble_eq_true rfl)⟩) (zV (ci := 5) (q0 := 0) hK hP hD rfl (wCl_0 G ad D_10)) rfl rfl hl.1 rfl (lv_room (Nat.le_of_ble_eq_true rfl)) dL_isFrameSo_458 ⟨(Nat.le_of_ble_eq_true rfl), (Nat.le_of_ble_eq_true rfl)⟩) hP hD hS hA (fun v_190 D_190 H locs k_190 hP hD hS => ?_)
        obtain ⟨⟨j9, j1, rfl⟩, ⟨m9, M9, k9J⟩, k9U⟩ := k_190
        have hJ9 := Ud_J k9U k9J
        refine lv_istore (lv' := [(18, .int (nI j9)), (17, .int 1), (16, .int 1), (15, .int (nI (M 1) - nI (N 1))), (14, .int 0), (13, .int (nI (rfs N))), (12, .int (reV N)), (11, .int (nI (hoV N))), (10, .int (nI (N (16 + c9)))), (9, .int (nI (N (32 + c9)))), (8, .int (nI (N 7))), (7, .int (nI (N 8))), (6, .int (nI (N 1))), (5, .int 0), (0, .ref ad.2.2.1), (1, .int (nI a9)), (2, .int (nI c9)), (3, .int (nI g9)), (4, .int (nI st))]) hx hb dL_isFrameSo_461 hl (by decide) rfl (fun ls hl => ?_)
        refine lv_iload hx hb dL_isFrameSo_463 (lv_at hl 1 rfl) ?_
        refine lv_if_eq (tgt := 504) hx hb dL_isFrameSo_465 (by decide) (fun c_191 => absurd ((t_eq (show (1 : Int32).toInt = 1 by decide) (show (0 : Int32).toInt = 0 by decide)).mp c_191) (by omega)) (fun c_191 => ?_)
        refine lv_iload hx hb dL_isFrameSo_468 (lv_at hl 0 rfl) ?_
        refine lv_if_lt (tgt := 504) hx hb dL_isFrameSo_470 (by decide) (fun c_192 => absurd ((t_lt (nI_toInt (n := j9) (by omega)) (show (0 : Int32).toInt = 0 by decide)).mp c_192) (by omega)) (fun c_192 => ?_)
        refine lv_aload_n hx hb dL_isFrameSo_473 rfl (lv_at hl 14 rfl) ?_
        refine z_callG (val := nI (N 8)) (va_runV (As := []) (rest := []) ⟨hx, hb, hml, hown, hts⟩ (pC_received l G H.size ad hJ9) (cwV 0 hts gL_isFrameSo_X5_received rfl rfl rfl (by decide +kernel) ⟨(Nat.le_of_ble_eq_true rfl), (Nat.le_of_ble_eq_true rfl)⟩) (zV (ci := 5) (q0 := 0) hK hP hD rfl (wCl_0 G ad D_190)) rfl rfl hl.1 rfl (lv_room (Nat.le_of_ble_eq_true rfl)) dL_isFrameSo_474 ⟨(Nat.le_of_ble_eq_true rfl), (Nat.le_of_ble_eq_true rfl)⟩) hP hD hS hA (fun H locs hP hD hS => ?_)
        refine lv_iload hx hb dL_isFrameSo_477 (lv_at hl 11 rfl) ?_
        refine lv_icmp_ne (tgt := 504) hx hb dL_isFrameSo_479 (by decide) (fun c_194 => absurd ((t_eq (nI_toInt (n := (N 8)) (by omega)) (nI_toInt (n := (N 8)) (by omega))).mpr (by omega)) c_194) (fun c_194 => ?_)
        refine lv_aload_n hx hb dL_isFrameSo_482 rfl (lv_at hl 14 rfl) ?_
        refine z_callG (val := nI (N 1)) (va_runV (As := []) (rest := []) ⟨hx, hb, hml, hown, hts⟩ (pC_gain l G H.size ad hJ9) (cwV 0 hts gL_isFrameSo_X5_gain rfl rfl rfl (by decide +kernel) ⟨(Nat.le_of_ble_eq_true rfl), (Nat.le_of_ble_eq_true rfl)⟩) (zV (ci := 5) (q0 := 0) hK hP hD rfl (wCl_0 G ad D_190)) rfl rfl hl.1 rfl (lv_room (Nat.le_of_ble_eq_true rfl)) dL_isFrameSo_483 ⟨(Nat.le_of_ble_eq_true rfl), (Nat.le_of_ble_eq_true rfl)⟩) hP hD hS hA (fun H locs hP hD hS => ?_)
        refine lv_iload hx hb dL_isFrameSo_486 (lv_at hl 12 rfl) ?_
        refine lv_icmp_ne (tgt := 504) hx hb dL_isFrameSo_488 (by decide) (fun c_196 => absurd ((t_eq (nI_toInt (n := (N 1)) (by omega)) (nI_toInt (n := (N 1)) (by omega))).mpr (by omega)) c_196) (fun c_196 => ?_)
        refine lv_aload_n hx hb dL_isFrameSo_491 rfl (lv_at hl 14 rfl) ?_
        refine z_callG (val := nI (hoV N)) (va_runV (As := []) (rest := []) ⟨hx, hb, hml, hown, hts⟩ (pC_holds' l G H.size ad hJ9 (show (if rem N then nI (N 5) else 0) = nI (hoV N) by unfold hoV; split <;> rfl)) (cwV 0 hts gL_isFrameSo_X5_holds rfl rfl rfl (by decide +kernel) ⟨(Nat.le_of_ble_eq_true rfl), (Nat.le_of_ble_eq_true rfl)⟩) (zV (ci := 5) (q0 := 0) hK hP hD rfl (wCl_0 G ad D_190)) rfl rfl hl.1 rfl (lv_room (Nat.le_of_ble_eq_true rfl)) dL_isFrameSo_492 ⟨(Nat.le_of_ble_eq_true rfl), (Nat.le_of_ble_eq_true rfl)⟩) hP hD hS hA (fun H locs hP hD hS => ?_)
        refine lv_iload hx hb dL_isFrameSo_495 (lv_at hl 7 rfl) ?_
        refine lv_icmp_ne (tgt := 504) hx hb dL_isFrameSo_497 (by decide) (fun c_198 => absurd ((t_eq (nI_toInt (n := (hoV N)) (by omega)) (nI_toInt (n := (hoV N)) (by omega))).mpr (by omega)) c_198) (fun c_198 => ?_)
        refine lv_iconst (v := 1) hx hb dL_isFrameSo_500 (by decide) ?_
        refine lv_goto (tgt := 505) hx hb dL_isFrameSo_501 (by decide) ?_
        exact z_iret hx hb hr rfl hlocks D_190 hP hD hS (Nat.le_of_ble_eq_true rfl) (Nat.le_of_ble_eq_true rfl) dL_isFrameSo_505 ⟨rfl, hJ9⟩
      · refine lv_aload_n hx hb dL_isFrameSo_409 rfl (lv_at hl 13 rfl) ?_
        refine z_callG (val := nI (M 1)) (va_runV (As := []) (rest := []) ⟨hx, hb, hml, hown, hts⟩ (pC_gain l G H.size ad k_10.1) (cwV 0 hts gL_isFrameSo_X5_gain rfl rfl rfl (by decide +kernel) ⟨(Nat.le_of_ble_eq_true rfl), (Nat.le_of_ble_eq_true rfl)⟩) (zV (ci := 5) (q0 := 0) hK hP hD rfl (wCl_0 G ad D_10)) rfl rfl hl.1 rfl (lv_room (Nat.le_of_ble_eq_true rfl)) dL_isFrameSo_410 ⟨(Nat.le_of_ble_eq_true rfl), (Nat.le_of_ble_eq_true rfl)⟩) hP hD hS hA (fun H locs hP hD hS => ?_)
        refine lv_bipush (v := 10) hx hb dL_isFrameSo_413 (by decide) ?_
        refine lv_icmp_ne (tgt := 457) hx hb dL_isFrameSo_415 (by decide) (fun c_200 => ?_) (fun c_200 => ?_)
        · refine lv_aload_n hx hb dL_isFrameSo_457 rfl (lv_at hl 13 rfl) ?_
          refine z_callA (va_runV (As := []) (rest := []) ⟨hx, hb, hml, hown, hts⟩ (pC_undo' l G H.size ad k_10.1 k_10.2) (cwV 0 hts gL_isFrameSo_X5_undo rfl rfl rfl (by decide +kernel) ⟨(Nat.le_of_ble_eq_true rfl), (Nat.le_of_ble_eq_true rfl)⟩) (zV (ci := 5) (q0 := 0) hK hP hD rfl (wCl_0 G ad D_10)) rfl rfl hl.1 rfl (lv_room (Nat.le_of_ble_eq_true rfl)) dL_isFrameSo_458 ⟨(Nat.le_of_ble_eq_true rfl), (Nat.le_of_ble_eq_true rfl)⟩) hP hD hS hA (fun v_201 D_201 H locs k_201 hP hD hS => ?_)
          obtain ⟨⟨j9, j1, rfl⟩, ⟨m9, M9, k9J⟩, k9U⟩ := k_201
          have hJ9 := Ud_J k9U k9J
          refine lv_istore (lv' := [(18, .int (nI j9)), (17, .int 1), (16, .int 1), (15, .int (nI (M 1) - nI (N 1))), (14, .int 0), (13, .int (nI (rfs N))), (12, .int (reV N)), (11, .int (nI (hoV N))), (10, .int (nI (N (16 + c9)))), (9, .int (nI (N (32 + c9)))), (8, .int (nI (N 7))), (7, .int (nI (N 8))), (6, .int (nI (N 1))), (5, .int 0), (0, .ref ad.2.2.1), (1, .int (nI a9)), (2, .int (nI c9)), (3, .int (nI g9)), (4, .int (nI st))]) hx hb dL_isFrameSo_461 hl (by decide) rfl (fun ls hl => ?_)
          refine lv_iload hx hb dL_isFrameSo_463 (lv_at hl 1 rfl) ?_
          refine lv_if_eq (tgt := 504) hx hb dL_isFrameSo_465 (by decide) (fun c_202 => absurd ((t_eq (show (1 : Int32).toInt = 1 by decide) (show (0 : Int32).toInt = 0 by decide)).mp c_202) (by omega)) (fun c_202 => ?_)
          refine lv_iload hx hb dL_isFrameSo_468 (lv_at hl 0 rfl) ?_
          refine lv_if_lt (tgt := 504) hx hb dL_isFrameSo_470 (by decide) (fun c_203 => absurd ((t_lt (nI_toInt (n := j9) (by omega)) (show (0 : Int32).toInt = 0 by decide)).mp c_203) (by omega)) (fun c_203 => ?_)
          refine lv_aload_n hx hb dL_isFrameSo_473 rfl (lv_at hl 14 rfl) ?_
          refine z_callG (val := nI (N 8)) (va_runV (As := []) (rest := []) ⟨hx, hb, hml, hown, hts⟩ (pC_received l G H.size ad hJ9) (cwV 0 hts gL_isFrameSo_X5_received rfl rfl rfl (by decide +kernel) ⟨(Nat.le_of_ble_eq_true rfl), (Nat.le_of_ble_eq_true rfl)⟩) (zV (ci := 5) (q0 := 0) hK hP hD rfl (wCl_0 G ad D_201)) rfl rfl hl.1 rfl (lv_room (Nat.le_of_ble_eq_true rfl)) dL_isFrameSo_474 ⟨(Nat.le_of_ble_eq_true rfl), (Nat.le_of_ble_eq_true rfl)⟩) hP hD hS hA (fun H locs hP hD hS => ?_)
          refine lv_iload hx hb dL_isFrameSo_477 (lv_at hl 11 rfl) ?_
          refine lv_icmp_ne (tgt := 504) hx hb dL_isFrameSo_479 (by decide) (fun c_205 => absurd ((t_eq (nI_toInt (n := (N 8)) (by omega)) (nI_toInt (n := (N 8)) (by omega))).mpr (by omega)) c_205) (fun c_205 => ?_)
          refine lv_aload_n hx hb dL_isFrameSo_482 rfl (lv_at hl 14 rfl) ?_
          refine z_callG (val := nI (N 1)) (va_runV (As := []) (rest := []) ⟨hx, hb, hml, hown, hts⟩ (pC_gain l G H.size ad hJ9) (cwV 0 hts gL_isFrameSo_X5_gain rfl rfl rfl (by decide +kernel) ⟨(Nat.le_of_ble_eq_true rfl), (Nat.le_of_ble_eq_true rfl)⟩) (zV (ci := 5) (q0 := 0) hK hP hD rfl (wCl_0 G ad D_201)) rfl rfl hl.1 rfl (lv_room (Nat.le_of_ble_eq_true rfl)) dL_isFrameSo_483 ⟨(Nat.le_of_ble_eq_true rfl), (Nat.le_of_ble_eq_true rfl)⟩) hP hD hS hA (fun H locs hP hD hS => ?_)
          refine lv_iload hx hb dL_isFrameSo_486 (lv_at hl 12 rfl) ?_
          refine lv_icmp_ne (tgt := 504) hx hb dL_isFrameSo_488 (by decide) (fun c_207 => absurd ((t_eq (nI_toInt (n := (N 1)) (by omega)) (nI_toInt (n := (N 1)) (by omega))).mpr (by omega)) c_207) (fun c_207 => ?_)
          refine lv_aload_n hx hb dL_isFrameSo_491 rfl (lv_at hl 14 rfl) ?_
          refine z_callG (val := nI (hoV N)) (va_runV (As := []) (rest := []) ⟨hx, hb, hml, hown, hts⟩ (pC_holds' l G H.size ad hJ9 (show (if rem N then nI (N 5) else 0) = nI (hoV N) by unfold hoV; split <;> rfl)) (cwV 0 hts gL_isFrameSo_X5_holds rfl rfl rfl (by decide +kernel) ⟨(Nat.le_of_ble_eq_true rfl), (Nat.le_of_ble_eq_true rfl)⟩) (zV (ci := 5) (q0 := 0) hK hP hD rfl (wCl_0 G ad D_201)) rfl rfl hl.1 rfl (lv_room (Nat.le_of_ble_eq_true rfl)) dL_isFrameSo_492 ⟨(Nat.le_of_ble_eq_true rfl), (Nat.le_of_ble_eq_true rfl)⟩) hP hD hS hA (fun H locs hP hD hS => ?_)
          refine lv_iload hx hb dL_isFrameSo_495 (lv_at hl 7 rfl) ?_
          refine lv_icmp_ne (tgt := 504) hx hb dL_isFrameSo_497 (by decide) (fun c_209 => absurd ((t_eq (nI_toInt (n := (hoV N)) (by omega)) (nI_toInt (n := (hoV N)) (by omega))).mpr (by omega)) c_209) (fun c_209 => ?_)
          refine lv_iconst (v := 1) hx hb dL_isFrameSo_500 (by decide) ?_
          refine lv_goto (tgt := 505) hx hb dL_isFrameSo_501 (by decide) ?_
          exact z_iret hx hb hr rfl hlocks D_201 hP hD hS (Nat.le_of_ble_eq_true rfl) (Nat.le_of_ble_eq_true rfl) dL_isFrameSo_505 ⟨rfl, hJ9⟩
        · refine lv_iload hx hb dL_isFrameSo_418 (lv_at hl 0 rfl) ?_
          refine lv_if_eq (tgt := 454) hx hb dL_isFrameSo_420 (by decide) (fun c_210 => absurd ((t_eq (show (1 : Int32).toInt = 1 by decide) (show (0 : Int32).toInt = 0 by decide)).mp c_210) (by omega)) (fun c_210 => ?_)
          have z0 : M 0 = 0 := (z_eq (b := 0) rfl rfl (by omega) (by omega)).mp c_189
          have z1 : M 1 = 10 := (z_eq (b := 10) rfl rfl (by omega) (by omega)).mp c_200
          have nb : ¬ bad M 10 := by
            unfold bad
            rw [z0, z1]
            omega
          have i1 : (frV M a9 c9 g9 10).1 = -1 := by rw [fr_two hx9 hy9 ht9 nb (by omega), if_pos ⟨rM1, by omega, by omega⟩]
          have i2 : (frV M a9 c9 (1 - g9) 10).1 = 0 := by rw [fr_two hx9 hy9 (show 1 - g9 < 2 by omega) nb (by omega), if_neg (fun z => absurd z.2.2 (by omega))]
          refine lv_aload_n hx hb dL_isFrameSo_423 rfl (lv_at hl 13 rfl) ?_
          refine lv_iload_n hx hb dL_isFrameSo_424 rfl (lv_at hl 14 rfl) ?_
          refine lv_iload_n hx hb dL_isFrameSo_425 rfl (lv_at hl 15 rfl) ?_
          refine lv_iload_n hx hb dL_isFrameSo_426 rfl (lv_at hl 16 rfl) ?_
          refine lv_bipush (v := 10) hx hb dL_isFrameSo_427 (by decide) ?_
          refine z_callM (val := (-1)) (va_runV (As := [.int (nI a9), .int (nI c9), .int (nI g9), .int 10]) (rest := []) ⟨hx, hb, hml, hown, hts⟩ (pC_ifFrame' l G H.size ad k_10.1 k_10.2 (a9 := a9) (c9 := c9) (g9 := g9) (st := 10) hx9 hy9 ht9 (Nat.le_of_ble_eq_true rfl) (Nat.le_of_ble_eq_true rfl) (V := -1) i1) (cwV 4 hts gL_isFrameSo_X5_ifFrame rfl rfl rfl (by decide +kernel) ⟨(Nat.le_of_ble_eq_true rfl), (Nat.le_of_ble_eq_true rfl)⟩) (zV (ci := 5) (q0 := 0) hK hP hD rfl (wCl_0 G ad D_10)) rfl rfl hl.1 rfl (lv_room (Nat.le_of_ble_eq_true rfl)) dL_isFrameSo_429 ⟨(Nat.le_of_ble_eq_true rfl), (Nat.le_of_ble_eq_true rfl)⟩) hP hD hS hA (fun D_211 H locs k_211 hP hD hS => ?_)
          refine lv_iconst (v := -1) hx hb dL_isFrameSo_432 (by decide) ?_
          refine lv_icmp_ne (tgt := 454) hx hb dL_isFrameSo_433 (by decide) (fun c_212 => absurd ((t_eq (show (-1 : Int32).toInt = -1 by decide) (show (-1 : Int32).toInt = -1 by decide)).mpr (by omega)) c_212) (fun c_212 => ?_)
          refine lv_aload_n hx hb dL_isFrameSo_436 rfl (lv_at hl 13 rfl) ?_
          refine lv_iload_n hx hb dL_isFrameSo_437 rfl (lv_at hl 14 rfl) ?_
          refine lv_iload_n hx hb dL_isFrameSo_438 rfl (lv_at hl 15 rfl) ?_
          refine lv_iconst (v := 1) hx hb dL_isFrameSo_439 (by decide) ?_
          refine lv_iload_n hx hb dL_isFrameSo_440 rfl (lv_at hl 16 rfl) ?_
          refine lv_isub hx hb dL_isFrameSo_441 ?_
          refine z_top (show (1 : Int32) - (nI g9) = nI (1 - g9) from pk_sub (a := 1) (b := g9) (by omega)) ?_
          refine lv_bipush (v := 10) hx hb dL_isFrameSo_442 (by decide) ?_
          refine z_callM (val := 0) (va_runV (As := [.int (nI a9), .int (nI c9), .int (nI (1 - g9)), .int 10]) (rest := []) ⟨hx, hb, hml, hown, hts⟩ (pC_ifFrame' l G H.size ad k_211.1 k_211.2 (a9 := a9) (c9 := c9) (g9 := (1 - g9)) (st := 10) hx9 hy9 (show 1 - g9 < 2 by omega) (Nat.le_of_ble_eq_true rfl) (Nat.le_of_ble_eq_true rfl) (V := 0) i2) (cwV 4 hts gL_isFrameSo_X5_ifFrame rfl rfl rfl (by decide +kernel) ⟨(Nat.le_of_ble_eq_true rfl), (Nat.le_of_ble_eq_true rfl)⟩) (zV (ci := 5) (q0 := 0) hK hP hD rfl (wCl_0 G ad D_211)) rfl rfl hl.1 rfl (lv_room (Nat.le_of_ble_eq_true rfl)) dL_isFrameSo_444 ⟨(Nat.le_of_ble_eq_true rfl), (Nat.le_of_ble_eq_true rfl)⟩) hP hD hS hA (fun D_213 H locs k_213 hP hD hS => ?_)
          refine lv_if_ne (tgt := 454) hx hb dL_isFrameSo_447 (by decide) (fun c_214 => absurd ((t_eq (show (0 : Int32).toInt = 0 by decide) (show (0 : Int32).toInt = 0 by decide)).mpr (by omega)) c_214) (fun c_214 => ?_)
          refine lv_iconst (v := 1) hx hb dL_isFrameSo_450 (by decide) ?_
          refine lv_goto (tgt := 455) hx hb dL_isFrameSo_451 (by decide) ?_
          refine lv_istore (lv' := [(17, .int 1), (16, .int 1), (15, .int (nI (M 1) - nI (N 1))), (14, .int 0), (13, .int (nI (rfs N))), (12, .int (reV N)), (11, .int (nI (hoV N))), (10, .int (nI (N (16 + c9)))), (9, .int (nI (N (32 + c9)))), (8, .int (nI (N 7))), (7, .int (nI (N 8))), (6, .int (nI (N 1))), (5, .int 0), (0, .ref ad.2.2.1), (1, .int (nI a9)), (2, .int (nI c9)), (3, .int (nI g9)), (4, .int (nI st))]) hx hb dL_isFrameSo_455 hl (by decide) rfl (fun ls hl => ?_)
          refine lv_aload_n hx hb dL_isFrameSo_457 rfl (lv_at hl 13 rfl) ?_
          refine z_callA (va_runV (As := []) (rest := []) ⟨hx, hb, hml, hown, hts⟩ (pC_undo' l G H.size ad k_213.1 k_213.2) (cwV 0 hts gL_isFrameSo_X5_undo rfl rfl rfl (by decide +kernel) ⟨(Nat.le_of_ble_eq_true rfl), (Nat.le_of_ble_eq_true rfl)⟩) (zV (ci := 5) (q0 := 0) hK hP hD rfl (wCl_0 G ad D_213)) rfl rfl hl.1 rfl (lv_room (Nat.le_of_ble_eq_true rfl)) dL_isFrameSo_458 ⟨(Nat.le_of_ble_eq_true rfl), (Nat.le_of_ble_eq_true rfl)⟩) hP hD hS hA (fun v_215 D_215 H locs k_215 hP hD hS => ?_)
          obtain ⟨⟨j9, j1, rfl⟩, ⟨m9, M9, k9J⟩, k9U⟩ := k_215
          have hJ9 := Ud_J k9U k9J
          refine lv_istore (lv' := [(18, .int (nI j9)), (17, .int 1), (16, .int 1), (15, .int (nI (M 1) - nI (N 1))), (14, .int 0), (13, .int (nI (rfs N))), (12, .int (reV N)), (11, .int (nI (hoV N))), (10, .int (nI (N (16 + c9)))), (9, .int (nI (N (32 + c9)))), (8, .int (nI (N 7))), (7, .int (nI (N 8))), (6, .int (nI (N 1))), (5, .int 0), (0, .ref ad.2.2.1), (1, .int (nI a9)), (2, .int (nI c9)), (3, .int (nI g9)), (4, .int (nI st))]) hx hb dL_isFrameSo_461 hl (by decide) rfl (fun ls hl => ?_)
          refine lv_iload hx hb dL_isFrameSo_463 (lv_at hl 1 rfl) ?_
          refine lv_if_eq (tgt := 504) hx hb dL_isFrameSo_465 (by decide) (fun c_216 => absurd ((t_eq (show (1 : Int32).toInt = 1 by decide) (show (0 : Int32).toInt = 0 by decide)).mp c_216) (by omega)) (fun c_216 => ?_)
          refine lv_iload hx hb dL_isFrameSo_468 (lv_at hl 0 rfl) ?_
          refine lv_if_lt (tgt := 504) hx hb dL_isFrameSo_470 (by decide) (fun c_217 => absurd ((t_lt (nI_toInt (n := j9) (by omega)) (show (0 : Int32).toInt = 0 by decide)).mp c_217) (by omega)) (fun c_217 => ?_)
          refine lv_aload_n hx hb dL_isFrameSo_473 rfl (lv_at hl 14 rfl) ?_
          refine z_callG (val := nI (N 8)) (va_runV (As := []) (rest := []) ⟨hx, hb, hml, hown, hts⟩ (pC_received l G H.size ad hJ9) (cwV 0 hts gL_isFrameSo_X5_received rfl rfl rfl (by decide +kernel) ⟨(Nat.le_of_ble_eq_true rfl), (Nat.le_of_ble_eq_true rfl)⟩) (zV (ci := 5) (q0 := 0) hK hP hD rfl (wCl_0 G ad D_215)) rfl rfl hl.1 rfl (lv_room (Nat.le_of_ble_eq_true rfl)) dL_isFrameSo_474 ⟨(Nat.le_of_ble_eq_true rfl), (Nat.le_of_ble_eq_true rfl)⟩) hP hD hS hA (fun H locs hP hD hS => ?_)
          refine lv_iload hx hb dL_isFrameSo_477 (lv_at hl 11 rfl) ?_
          refine lv_icmp_ne (tgt := 504) hx hb dL_isFrameSo_479 (by decide) (fun c_219 => absurd ((t_eq (nI_toInt (n := (N 8)) (by omega)) (nI_toInt (n := (N 8)) (by omega))).mpr (by omega)) c_219) (fun c_219 => ?_)
          refine lv_aload_n hx hb dL_isFrameSo_482 rfl (lv_at hl 14 rfl) ?_
          refine z_callG (val := nI (N 1)) (va_runV (As := []) (rest := []) ⟨hx, hb, hml, hown, hts⟩ (pC_gain l G H.size ad hJ9) (cwV 0 hts gL_isFrameSo_X5_gain rfl rfl rfl (by decide +kernel) ⟨(Nat.le_of_ble_eq_true rfl), (Nat.le_of_ble_eq_true rfl)⟩) (zV (ci := 5) (q0 := 0) hK hP hD rfl (wCl_0 G ad D_215)) rfl rfl hl.1 rfl (lv_room (Nat.le_of_ble_eq_true rfl)) dL_isFrameSo_483 ⟨(Nat.le_of_ble_eq_true rfl), (Nat.le_of_ble_eq_true rfl)⟩) hP hD hS hA (fun H locs hP hD hS => ?_)
          refine lv_iload hx hb dL_isFrameSo_486 (lv_at hl 12 rfl) ?_
          refine lv_icmp_ne (tgt := 504) hx hb dL_isFrameSo_488 (by decide) (fun c_221 => absurd ((t_eq (nI_toInt (n := (N 1)) (by omega)) (nI_toInt (n := (N 1)) (by omega))).mpr (by omega)) c_221) (fun c_221 => ?_)
          refine lv_aload_n hx hb dL_isFrameSo_491 rfl (lv_at hl 14 rfl) ?_
          refine z_callG (val := nI (hoV N)) (va_runV (As := []) (rest := []) ⟨hx, hb, hml, hown, hts⟩ (pC_holds' l G H.size ad hJ9 (show (if rem N then nI (N 5) else 0) = nI (hoV N) by unfold hoV; split <;> rfl)) (cwV 0 hts gL_isFrameSo_X5_holds rfl rfl rfl (by decide +kernel) ⟨(Nat.le_of_ble_eq_true rfl), (Nat.le_of_ble_eq_true rfl)⟩) (zV (ci := 5) (q0 := 0) hK hP hD rfl (wCl_0 G ad D_215)) rfl rfl hl.1 rfl (lv_room (Nat.le_of_ble_eq_true rfl)) dL_isFrameSo_492 ⟨(Nat.le_of_ble_eq_true rfl), (Nat.le_of_ble_eq_true rfl)⟩) hP hD hS hA (fun H locs hP hD hS => ?_)
          refine lv_iload hx hb dL_isFrameSo_495 (lv_at hl 7 rfl) ?_
          refine lv_icmp_ne (tgt := 504) hx hb dL_isFrameSo_497 (by decide) (fun c_223 => absurd ((t_eq (nI_toInt (n := (hoV N)) (by omega)) (nI_toInt (n := (hoV N)) (by omega))).mpr (by omega)) c_223) (fun c_223 => ?_)
          refine lv_iconst (v := 1) hx hb dL_isFrameSo_500 (by decide) ?_
          refine lv_goto (tgt := 505) hx hb dL_isFrameSo_501 (by decide) ?_
          exact z_iret hx hb hr rfl hlocks D_215 hP hD hS (Nat.le_of_ble_eq_true rfl) (Nat.le_of_ble_eq_true rfl) dL_isFrameSo_505 ⟨rfl, hJ9⟩
set_option maxRecDepth 100000 in
theorem pL_isFrameSo (l : Launch) (G : zG) (sz : Nat) (ad : zAd) {D : zDc} {N : zN} {n : Nat} (h : J n D N) (hn : n < 8800) {a9 c9 g9 st : Nat} (hx9 : a9 < 8) (hy9 : c9 < 16) (ht9 : g9 < 2) (hs1 : 1 ≤ st) (hs9 : st ≤ 10) : zMi l yL_isFrameSo wsL_isFrameSo ({ frames := 6, cells := 0, slots := 0, locals := 147 } : Room) [.ref ad.2.2.1, .int (nI a9), .int (nI c9), .int (nI g9), .int (nI st)] G (wCl G ad D) (fun (v : Int32) (D' : zDc) => v = 1 ∧ J n D' N) (fun D' => wCl G ad D') sz 0 0 := by
  obtain ⟨V, M, hf, hC, hR | hR | hR⟩ := fr_sum (st := st) h.2.1 hx9 hy9 ht9
  · obtain ⟨k, k1, k2, rfl, hR2⟩ := id hR
    exact pL_isFrameSo_r l G sz ad h hn hx9 hy9 ht9 hs1 hs9 k1 k2 hf hC hR
  · obtain ⟨rfl, hR2⟩ := id hR
    exact pL_isFrameSo_h l G sz ad h hn hx9 hy9 ht9 hs1 hs9 hf hC hR
  · obtain ⟨rfl, hR2⟩ := id hR
    exact pL_isFrameSo_p l G sz ad h hn hx9 hy9 ht9 hs1 hs9 hf hC hR
end PL4
