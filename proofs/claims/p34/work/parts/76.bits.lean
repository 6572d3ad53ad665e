section PLB
set_option maxHeartbeats 4000000 in
set_option maxRecDepth 100000 in
theorem pL_areBitsSo (l : Launch) (G : zG) (sz : Nat) (ad : zAd) {D : zDc} {N : zN} {n : Nat} (h : J n D N) {a9 c9 g9 : Nat} (hx9 : a9 < 8) (hy9 : c9 < 16) (ht9 : g9 < 2) : zMi l yL_areBitsSo wsL_areBitsSo ({ frames := 3, cells := 0, slots := 0, locals := 68 } : Room) [.ref ad.2.2.1, .int (nI a9), .int (nI c9), .int (nI g9)] G (wCl G ad D) (fun (v : Int32) (D' : zDc) => v = 1 ∧ D' = D) (fun D' => wCl G ad D') sz 0 0 := by
  refine zMi_of (cc := cL_areBitsSo) (maxL := 7) (ret := (some .boolean)) (by decide) rfl (Nat.le_of_ble_eq_true rfl) ?_
  intro p e s m args below meth c A ls hx hb hr hml hts hown hlocks hnm hK hP hD hAe hS hA hl hsz
  have hown : s.vm.findClass RL = some m.cls := hown
  have hl : lv_has ls 7 [(0, .ref ad.2.2.1), (1, .int (nI a9)), (2, .int (nI c9)), (3, .int (nI g9))] := hl
  have q0 := bN_lt a9 c9 g9 0
  have q1 := bN_lt a9 c9 g9 1
  have q2 := bN_lt a9 c9 g9 2
  have q3 := bN_lt a9 c9 g9 3
  have q4 := bN_lt a9 c9 g9 4
  have q5 := bN_lt a9 c9 g9 5
  have q6 := bN_lt a9 c9 g9 6
  have q7 := bN_lt a9 c9 g9 7
  have q8 := bN_lt a9 c9 g9 8
  have s1 : 0 + bN a9 c9 g9 0 + bN a9 c9 g9 1 + bN a9 c9 g9 2 + bN a9 c9 g9 3 + bN a9 c9 g9 4 + bN a9 c9 g9 5 + bN a9 c9 g9 6 + bN a9 c9 g9 7 + bN a9 c9 g9 8 < 2 ^ 31 := by omega
  have s2 : 2 * (2 * (2 * (2 * (2 * (2 * (2 * (2 * (2 * 0 + bN a9 c9 g9 0) + bN a9 c9 g9 1) + bN a9 c9 g9 2) + bN a9 c9 g9 3) + bN a9 c9 g9 4) + bN a9 c9 g9 5) + bN a9 c9 g9 6) + bN a9 c9 g9 7) + bN a9 c9 g9 8 < 2 ^ 31 := by omega
  clear q0 q1 q2 q3 q4 q5 q6 q7 q8
  obtain ⟨e1, e2⟩ := bits_ok a9 hx9 c9 hy9 g9 ht9
  refine lv_iconst (v := 0) hx hb dL_areBitsSo_0 (by decide) ?_
  refine lv_istore (lv' := [(4, .int 0), (0, .ref ad.2.2.1), (1, .int (nI a9)), (2, .int (nI c9)), (3, .int (nI g9))]) hx hb dL_areBitsSo_1 hl (by decide) rfl (fun ls hl => ?_)
  refine lv_iconst (v := 0) hx hb dL_areBitsSo_3 (by decide) ?_
  refine lv_istore (lv' := [(5, .int 0), (4, .int 0), (0, .ref ad.2.2.1), (1, .int (nI a9)), (2, .int (nI c9)), (3, .int (nI g9))]) hx hb dL_areBitsSo_4 hl (by decide) rfl (fun ls hl => ?_)
  refine lv_iconst (v := 0) hx hb dL_areBitsSo_6 (by decide) ?_
  refine lv_istore (lv' := [(6, .int 0), (5, .int 0), (4, .int 0), (0, .ref ad.2.2.1), (1, .int (nI a9)), (2, .int (nI c9)), (3, .int (nI g9))]) hx hb dL_areBitsSo_7 hl (by decide) rfl (fun ls hl => ?_)
  refine lv_iload hx hb dL_areBitsSo_9 (lv_at hl 0 rfl) ?_
  refine lv_bipush (v := 9) hx hb dL_areBitsSo_11 (by decide) ?_
  refine lv_icmp_ge (tgt := 52) hx hb dL_areBitsSo_13 (by decide) (fun c_1 => absurd c_1 (by decide)) (fun c_1 => ?_)
  refine lv_iload hx hb dL_areBitsSo_16 (lv_at hl 2 rfl) ?_
  refine lv_aload_n hx hb dL_areBitsSo_18 rfl (lv_at hl 3 rfl) ?_
  refine lv_iload_n hx hb dL_areBitsSo_19 rfl (lv_at hl 4 rfl) ?_
  refine lv_iload_n hx hb dL_areBitsSo_20 rfl (lv_at hl 5 rfl) ?_
  refine lv_iload_n hx hb dL_areBitsSo_21 rfl (lv_at hl 6 rfl) ?_
  refine lv_iload hx hb dL_areBitsSo_22 (lv_at hl 0 rfl) ?_
  refine z_callG (val := nI (bN a9 c9 g9 0)) (va_runV (As := [.int (nI a9), .int (nI c9), .int (nI g9), .int 0]) (rest := [.int 0]) ⟨hx, hb, hml, hown, hts⟩ (pC_bit' l G s.heap.size ad h hx9 hy9 ht9 (i9 := 0) (Nat.le_of_ble_eq_true rfl)) (cwV 4 hts gL_areBitsSo_X5_bit rfl rfl rfl (by decide +kernel) ⟨(Nat.le_of_ble_eq_true rfl), (Nat.le_of_ble_eq_true rfl)⟩) (zV (ci := 5) (q0 := 0) hK hP hD rfl (wCl_0 G ad D)) rfl rfl hl.1 rfl (lv_room (Nat.le_of_ble_eq_true rfl)) dL_areBitsSo_24 ⟨(Nat.le_of_ble_eq_true rfl), (Nat.le_of_ble_eq_true rfl)⟩) hP hD hS hA (fun H locs hP hD hS => ?_)
  refine lv_iadd hx hb dL_areBitsSo_27 ?_
  refine z_top (show (0 : Int32) + nI (bN a9 c9 g9 0) = nI (0 + (bN a9 c9 g9 0)) from nI_add 0 (bN a9 c9 g9 0)) ?_
  refine lv_istore (lv' := [(4, .int (nI (0 + (bN a9 c9 g9 0)))), (6, .int 0), (5, .int 0), (0, .ref ad.2.2.1), (1, .int (nI a9)), (2, .int (nI c9)), (3, .int (nI g9))]) hx hb dL_areBitsSo_28 hl (by decide) rfl (fun ls hl => ?_)
  refine lv_iconst (v := 2) hx hb dL_areBitsSo_30 (by decide) ?_
  refine lv_iload hx hb dL_areBitsSo_31 (lv_at hl 2 rfl) ?_
  refine lv_imul hx hb dL_areBitsSo_33 ?_
  refine z_top (show (2 : Int32) * (0 : Int32) = nI (2 * 0) from pk_mul 2 0) ?_
  refine lv_aload_n hx hb dL_areBitsSo_34 rfl (lv_at hl 3 rfl) ?_
  refine lv_iload_n hx hb dL_areBitsSo_35 rfl (lv_at hl 4 rfl) ?_
  refine lv_iload_n hx hb dL_areBitsSo_36 rfl (lv_at hl 5 rfl) ?_
  refine lv_iload_n hx hb dL_areBitsSo_37 rfl (lv_at hl 6 rfl) ?_
  refine lv_iload hx hb dL_areBitsSo_38 (lv_at hl 1 rfl) ?_
  refine z_callG (val := nI (bN a9 c9 g9 0)) (va_runV (As := [.int (nI a9), .int (nI c9), .int (nI g9), .int 0]) (rest := [.int (nI (2 * 0))]) ⟨hx, hb, hml, hown, hts⟩ (pC_bit' l G H.size ad h hx9 hy9 ht9 (i9 := 0) (Nat.le_of_ble_eq_true rfl)) (cwV 4 hts gL_areBitsSo_X5_bit rfl rfl rfl (by decide +kernel) ⟨(Nat.le_of_ble_eq_true rfl), (Nat.le_of_ble_eq_true rfl)⟩) (zV (ci := 5) (q0 := 0) hK hP hD rfl (wCl_0 G ad D)) rfl rfl hl.1 rfl (lv_room (Nat.le_of_ble_eq_true rfl)) dL_areBitsSo_40 ⟨(Nat.le_of_ble_eq_true rfl), (Nat.le_of_ble_eq_true rfl)⟩) hP hD hS hA (fun H locs hP hD hS => ?_)
  refine lv_iadd hx hb dL_areBitsSo_43 ?_
  refine z_top (show nI (2 * 0) + nI (bN a9 c9 g9 0) = nI ((2 * 0) + (bN a9 c9 g9 0)) from nI_add (2 * 0) (bN a9 c9 g9 0)) ?_
  refine lv_istore (lv' := [(5, .int (nI ((2 * 0) + (bN a9 c9 g9 0)))), (4, .int (nI (0 + (bN a9 c9 g9 0)))), (6, .int 0), (0, .ref ad.2.2.1), (1, .int (nI a9)), (2, .int (nI c9)), (3, .int (nI g9))]) hx hb dL_areBitsSo_44 hl (by decide) rfl (fun ls hl => ?_)
  refine lv_iinc (v := 1) (lv' := [(6, .int 1), (5, .int (nI ((2 * 0) + (bN a9 c9 g9 0)))), (4, .int (nI (0 + (bN a9 c9 g9 0)))), (0, .ref ad.2.2.1), (1, .int (nI a9)), (2, .int (nI c9)), (3, .int (nI g9))]) hx hb dL_areBitsSo_46 hl (k := 2) rfl (by decide) (by decide) rfl (fun ls hl => ?_)
  refine lv_goto (tgt := 9) hx hb dL_areBitsSo_49 (by decide) ?_
  refine lv_iload hx hb dL_areBitsSo_9 (lv_at hl 0 rfl) ?_
  refine lv_bipush (v := 9) hx hb dL_areBitsSo_11 (by decide) ?_
  refine lv_icmp_ge (tgt := 52) hx hb dL_areBitsSo_13 (by decide) (fun c_4 => absurd c_4 (by decide)) (fun c_4 => ?_)
  refine lv_iload hx hb dL_areBitsSo_16 (lv_at hl 2 rfl) ?_
  refine lv_aload_n hx hb dL_areBitsSo_18 rfl (lv_at hl 3 rfl) ?_
  refine lv_iload_n hx hb dL_areBitsSo_19 rfl (lv_at hl 4 rfl) ?_
  refine lv_iload_n hx hb dL_areBitsSo_20 rfl (lv_at hl 5 rfl) ?_
  refine lv_iload_n hx hb dL_areBitsSo_21 rfl (lv_at hl 6 rfl) ?_
  refine lv_iload hx hb dL_areBitsSo_22 (lv_at hl 0 rfl) ?_
  refine z_callG (val := nI (bN a9 c9 g9 1)) (va_runV (As := [.int (nI a9), .int (nI c9), .int (nI g9), .int 1]) (rest := [.int (nI (0 + (bN a9 c9 g9 0)))]) ⟨hx, hb, hml, hown, hts⟩ (pC_bit' l G H.size ad h hx9 hy9 ht9 (i9 := 1) (Nat.le_of_ble_eq_true rfl)) (cwV 4 hts gL_areBitsSo_X5_bit rfl rfl rfl (by decide +kernel) ⟨(Nat.le_of_ble_eq_true rfl), (Nat.le_of_ble_eq_true rfl)⟩) (zV (ci := 5) (q0 := 0) hK hP hD rfl (wCl_0 G ad D)) rfl rfl hl.1 rfl (lv_room (Nat.le_of_ble_eq_true rfl)) dL_areBitsSo_24 ⟨(Nat.le_of_ble_eq_true rfl), (Nat.le_of_ble_eq_true rfl)⟩) hP hD hS hA (fun H locs hP hD hS => ?_)
  refine lv_iadd hx hb dL_areBitsSo_27 ?_
  refine z_top (show nI (0 + (bN a9 c9 g9 0)) + nI (bN a9 c9 g9 1) = nI ((0 + (bN a9 c9 g9 0)) + (bN a9 c9 g9 1)) from nI_add (0 + (bN a9 c9 g9 0)) (bN a9 c9 g9 1)) ?_
  refine lv_istore (lv' := [(4, .int (nI ((0 + (bN a9 c9 g9 0)) + (bN a9 c9 g9 1)))), (6, .int 1), (5, .int (nI ((2 * 0) + (bN a9 c9 g9 0)))), (0, .ref ad.2.2.1), (1, .int (nI a9)), (2, .int (nI c9)), (3, .int (nI g9))]) hx hb dL_areBitsSo_28 hl (by decide) rfl (fun ls hl => ?_)
  refine lv_iconst (v := 2) hx hb dL_areBitsSo_30 (by decide) ?_
  refine lv_iload hx hb dL_areBitsSo_31 (lv_at hl 2 rfl) ?_
  refine lv_imul hx hb dL_areBitsSo_33 ?_
  refine z_top (show (2 : Int32) * nI ((2 * 0) + (bN a9 c9 g9 0)) = nI (2 * ((2 * 0) + (bN a9 c9 g9 0))) from pk_mul 2 ((2 * 0) + (bN a9 c9 g9 0))) ?_
  refine lv_aload_n hx hb dL_areBitsSo_34 rfl (lv_at hl 3 rfl) ?_
  refine lv_iload_n hx hb dL_areBitsSo_35 rfl (lv_at hl 4 rfl) ?_
  refine lv_iload_n hx hb dL_areBitsSo_36 rfl (lv_at hl 5 rfl) ?_
  refine lv_iload_n hx hb dL_areBitsSo_37 rfl (lv_at hl 6 rfl) ?_
  refine lv_iload hx hb dL_areBitsSo_38 (lv_at hl 1 rfl) ?_
  refine z_callG (val := nI (bN a9 c9 g9 1)) (va_runV (As := [.int (nI a9), .int (nI c9), .int (nI g9), .int 1]) (rest := [.int (nI (2 * ((2 * 0) + (bN a9 c9 g9 0))))]) ⟨hx, hb, hml, hown, hts⟩ (pC_bit' l G H.size ad h hx9 hy9 ht9 (i9 := 1) (Nat.le_of_ble_eq_true rfl)) (cwV 4 hts gL_areBitsSo_X5_bit rfl rfl rfl (by decide +kernel) ⟨(Nat.le_of_ble_eq_true rfl), (Nat.le_of_ble_eq_true rfl)⟩) (zV (ci := 5) (q0 := 0) hK hP hD rfl (wCl_0 G ad D)) rfl rfl hl.1 rfl (lv_room (Nat.le_of_ble_eq_true rfl)) dL_areBitsSo_40 ⟨(Nat.le_of_ble_eq_true rfl), (Nat.le_of_ble_eq_true rfl)⟩) hP hD hS hA (fun H locs hP hD hS => ?_)
  refine lv_iadd hx hb dL_areBitsSo_43 ?_
  refine z_top (show nI (2 * ((2 * 0) + (bN a9 c9 g9 0))) + nI (bN a9 c9 g9 1) = nI ((2 * ((2 * 0) + (bN a9 c9 g9 0))) + (bN a9 c9 g9 1)) from nI_add (2 * ((2 * 0) + (bN a9 c9 g9 0))) (bN a9 c9 g9 1)) ?_
  refine lv_istore (lv' := [(5, .int (nI ((2 * ((2 * 0) + (bN a9 c9 g9 0))) + (bN a9 c9 g9 1)))), (4, .int (nI ((0 + (bN a9 c9 g9 0)) + (bN a9 c9 g9 1)))), (6, .int 1), (0, .ref ad.2.2.1), (1, .int (nI a9)), (2, .int (nI c9)), (3, .int (nI g9))]) hx hb dL_areBitsSo_44 hl (by decide) rfl (fun ls hl => ?_)
  refine lv_iinc (v := 2) (lv' := [(6, .int 2), (5, .int (nI ((2 * ((2 * 0) + (bN a9 c9 g9 0))) + (bN a9 c9 g9 1)))), (4, .int (nI ((0 + (bN a9 c9 g9 0)) + (bN a9 c9 g9 1)))), (0, .ref ad.2.2.1), (1, .int (nI a9)), (2, .int (nI c9)), (3, .int (nI g9))]) hx hb dL_areBitsSo_46 hl (k := 2) rfl (by decide) (by decide) rfl (fun ls hl => ?_)
  refine lv_goto (tgt := 9) hx hb dL_areBitsSo_49 (by decide) ?_
  refine lv_iload hx hb dL_areBitsSo_9 (lv_at hl 0 rfl) ?_
  refine lv_bipush (v := 9) hx hb dL_areBitsSo_11 (by decide) ?_
  refine lv_icmp_ge (tgt := 52) hx hb dL_areBitsSo_13 (by decide) (fun c_7 => absurd c_7 (by decide)) (fun c_7 => ?_)
  refine lv_iload hx hb dL_areBitsSo_16 (lv_at hl 2 rfl) ?_
  refine lv_aload_n hx hb dL_areBitsSo_18 rfl (lv_at hl 3 rfl) ?_
  refine lv_iload_n hx hb dL_areBitsSo_19 rfl (lv_at hl 4 rfl) ?_
  refine lv_iload_n hx hb dL_areBitsSo_20 rfl (lv_at hl 5 rfl) ?_
  refine lv_iload_n hx hb dL_areBitsSo_21 rfl (lv_at hl 6 rfl) ?_
  refine lv_iload hx hb dL_areBitsSo_22 (lv_at hl 0 rfl) ?_
  refine z_callG (val := nI (bN a9 c9 g9 2)) (va_runV (As := [.int (nI a9), .int (nI c9), .int (nI g9), .int 2]) (rest := [.int (nI ((0 + (bN a9 c9 g9 0)) + (bN a9 c9 g9 1)))]) ⟨hx, hb, hml, hown, hts⟩ (pC_bit' l G H.size ad h hx9 hy9 ht9 (i9 := 2) (Nat.le_of_ble_eq_true rfl)) (cwV 4 hts gL_areBitsSo_X5_bit rfl rfl rfl (by decide +kernel) ⟨(Nat.le_of_ble_eq_true rfl), (Nat.le_of_ble_eq_true rfl)⟩) (zV (ci := 5) (q0 := 0) hK hP hD rfl (wCl_0 G ad D)) rfl rfl hl.1 rfl (lv_room (Nat.le_of_ble_eq_true rfl)) dL_areBitsSo_24 ⟨(Nat.le_of_ble_eq_true rfl), (Nat.le_of_ble_eq_true rfl)⟩) hP hD hS hA (fun H locs hP hD hS => ?_)
  refine lv_iadd hx hb dL_areBitsSo_27 ?_
  refine z_top (show nI ((0 + (bN a9 c9 g9 0)) + (bN a9 c9 g9 1)) + nI (bN a9 c9 g9 2) = nI (((0 + (bN a9 c9 g9 0)) + (bN a9 c9 g9 1)) + (bN a9 c9 g9 2)) from nI_add ((0 + (bN a9 c9 g9 0)) + (bN a9 c9 g9 1)) (bN a9 c9 g9 2)) ?_
  refine lv_istore (lv' := [(4, .int (nI (((0 + (bN a9 c9 g9 0)) + (bN a9 c9 g9 1)) + (bN a9 c9 g9 2)))), (6, .int 2), (5, .int (nI ((2 * ((2 * 0) + (bN a9 c9 g9 0))) + (bN a9 c9 g9 1)))), (0, .ref ad.2.2.1), (1, .int (nI a9)), (2, .int (nI c9)), (3, .int (nI g9))]) hx hb dL_areBitsSo_28 hl (by decide) rfl (fun ls hl => ?_)
  refine lv_iconst (v := 2) hx hb dL_areBitsSo_30 (by decide) ?_
  refine lv_iload hx hb dL_areBitsSo_31 (lv_at hl 2 rfl) ?_
  refine lv_imul hx hb dL_areBitsSo_33 ?_
  refine z_top (show (2 : Int32) * nI ((2 * ((2 * 0) + (bN a9 c9 g9 0))) + (bN a9 c9 g9 1)) = nI (2 * ((2 * ((2 * 0) + (bN a9 c9 g9 0))) + (bN a9 c9 g9 1))) from pk_mul 2 ((2 * ((2 * 0) + (bN a9 c9 g9 0))) + (bN a9 c9 g9 1))) ?_
  refine lv_aload_n hx hb dL_areBitsSo_34 rfl (lv_at hl 3 rfl) ?_
  refine lv_iload_n hx hb dL_areBitsSo_35 rfl (lv_at hl 4 rfl) ?_
  refine lv_iload_n hx hb dL_areBitsSo_36 rfl (lv_at hl 5 rfl) ?_
  refine lv_iload_n hx hb dL_areBitsSo_37 rfl (lv_at hl 6 rfl) ?_
  refine lv_iload hx hb dL_areBitsSo_38 (lv_at hl 1 rfl) ?_
  refine z_callG (val := nI (bN a9 c9 g9 2)) (va_runV (As := [.int (nI a9), .int (nI c9), .int (nI g9), .int 2]) (rest := [.int (nI (2 * ((2 * ((2 * 0) + (bN a9 c9 g9 0))) + (bN a9 c9 g9 1))))]) ⟨hx, hb, hml, hown, hts⟩ (pC_bit' l G H.size ad h hx9 hy9 ht9 (i9 := 2) (Nat.le_of_ble_eq_true rfl)) (cwV 4 hts gL_areBitsSo_X5_bit rfl rfl rfl (by decide +kernel) ⟨(Nat.le_of_ble_eq_true rfl), (Nat.le_of_ble_eq_true rfl)⟩) (zV (ci := 5) (q0 := 0) hK hP hD rfl (wCl_0 G ad D)) rfl rfl hl.1 rfl (lv_room (Nat.le_of_ble_eq_true rfl)) dL_areBitsSo_40 ⟨(Nat.le_of_ble_eq_true rfl), (Nat.le_of_ble_eq_true rfl)⟩) hP hD hS hA (fun H locs hP hD hS => ?_)
  refine lv_iadd hx hb dL_areBitsSo_43 ?_
  refine z_top (show nI (2 * ((2 * ((2 * 0) + (bN a9 c9 g9 0))) + (bN a9 c9 g9 1))) + nI (bN a9 c9 g9 2) = nI ((2 * ((2 * ((2 * 0) + (bN a9 c9 g9 0))) + (bN a9 c9 g9 1))) + (bN a9 c9 g9 2)) from nI_add (2 * ((2 * ((2 * 0) + (bN a9 c9 g9 0))) + (bN a9 c9 g9 1))) (bN a9 c9 g9 2)) ?_
  refine lv_istore (lv' := [(5, .int (nI ((2 * ((2 * ((2 * 0) + (bN a9 c9 g9 0))) + (bN a9 c9 g9 1))) + (bN a9 c9 g9 2)))), (4, .int (nI (((0 + (bN a9 c9 g9 0)) + (bN a9 c9 g9 1)) + (bN a9 c9 g9 2)))), (6, .int 2), (0, .ref ad.2.2.1), (1, .int (nI a9)), (2, .int (nI c9)), (3, .int (nI g9))]) hx hb dL_areBitsSo_44 hl (by decide) rfl (fun ls hl => ?_)
  refine lv_iinc (v := 3) (lv' := [(6, .int 3), (5, .int (nI ((2 * ((2 * ((2 * 0) + (bN a9 c9 g9 0))) + (bN a9 c9 g9 1))) + (bN a9 c9 g9 2)))), (4, .int (nI (((0 + (bN a9 c9 g9 0)) + (bN a9 c9 g9 1)) + (bN a9 c9 g9 2)))), (0, .ref ad.2.2.1), (1, .int (nI a9)), (2, .int (nI c9)), (3, .int (nI g9))]) hx hb dL_areBitsSo_46 hl (k := 2) rfl (by decide) (by decide) rfl (fun ls hl => ?_)
  refine lv_goto (tgt := 9) hx hb dL_areBitsSo_49 (by decide) ?_
  refine lv_iload hx hb dL_areBitsSo_9 (lv_at hl 0 rfl) ?_
  refine lv_bipush (v := 9) hx hb dL_areBitsSo_11 (by decide) ?_
  refine lv_icmp_ge (tgt := 52) hx hb dL_areBitsSo_13 (by decide) (fun c_10 => absurd c_10 (by decide)) (fun c_10 => ?_)
  refine lv_iload hx hb dL_areBitsSo_16 (lv_at hl 2 rfl) ?_
  refine lv_aload_n hx hb dL_areBitsSo_18 rfl (lv_at hl 3 rfl) ?_
  refine lv_iload_n hx hb dL_areBitsSo_19 rfl (lv_at hl 4 rfl) ?_
  refine lv_iload_n hx hb dL_areBitsSo_20 rfl (lv_at hl 5 rfl) ?_
  refine lv_iload_n hx hb dL_areBitsSo_21 rfl (lv_at hl 6 rfl) ?_
  refine lv_iload hx hb dL_areBitsSo_22 (lv_at hl 0 rfl) ?_
  refine z_callG (val := nI (bN a9 c9 g9 3)) (va_runV (As := [.int (nI a9), .int (nI c9), .int (nI g9), .int 3]) (rest := [.int (nI (((0 + (bN a9 c9 g9 0)) + (bN a9 c9 g9 1)) + (bN a9 c9 g9 2)))]) ⟨hx, hb, hml, hown, hts⟩ (pC_bit' l G H.size ad h hx9 hy9 ht9 (i9 := 3) (Nat.le_of_ble_eq_true rfl)) (cwV 4 hts gL_areBitsSo_X5_bit rfl rfl rfl (by decide +kernel) ⟨(Nat.le_of_ble_eq_true rfl), (Nat.le_of_ble_eq_true rfl)⟩) (zV (ci := 5) (q0 := 0) hK hP hD rfl (wCl_0 G ad D)) rfl rfl hl.1 rfl (lv_room (Nat.le_of_ble_eq_true rfl)) dL_areBitsSo_24 ⟨(Nat.le_of_ble_eq_true rfl), (Nat.le_of_ble_eq_true rfl)⟩) hP hD hS hA (fun H locs hP hD hS => ?_)
  refine lv_iadd hx hb dL_areBitsSo_27 ?_
  refine z_top (show nI (((0 + (bN a9 c9 g9 0)) + (bN a9 c9 g9 1)) + (bN a9 c9 g9 2)) + nI (bN a9 c9 g9 3) = nI ((((0 + (bN a9 c9 g9 0)) + (bN a9 c9 g9 1)) + (bN a9 c9 g9 2)) + (bN a9 c9 g9 3)) from nI_add (((0 + (bN a9 c9 g9 0)) + (bN a9 c9 g9 1)) + (bN a9 c9 g9 2)) (bN a9 c9 g9 3)) ?_
  refine lv_istore (lv' := [(4, .int (nI ((((0 + (bN a9 c9 g9 0)) + (bN a9 c9 g9 1)) + (bN a9 c9 g9 2)) + (bN a9 c9 g9 3)))), (6, .int 3), (5, .int (nI ((2 * ((2 * ((2 * 0) + (bN a9 c9 g9 0))) + (bN a9 c9 g9 1))) + (bN a9 c9 g9 2)))), (0, .ref ad.2.2.1), (1, .int (nI a9)), (2, .int (nI c9)), (3, .int (nI g9))]) hx hb dL_areBitsSo_28 hl (by decide) rfl (fun ls hl => ?_)
  refine lv_iconst (v := 2) hx hb dL_areBitsSo_30 (by decide) ?_
  refine lv_iload hx hb dL_areBitsSo_31 (lv_at hl 2 rfl) ?_
  refine lv_imul hx hb dL_areBitsSo_33 ?_
  refine z_top (show (2 : Int32) * nI ((2 * ((2 * ((2 * 0) + (bN a9 c9 g9 0))) + (bN a9 c9 g9 1))) + (bN a9 c9 g9 2)) = nI (2 * ((2 * ((2 * ((2 * 0) + (bN a9 c9 g9 0))) + (bN a9 c9 g9 1))) + (bN a9 c9 g9 2))) from pk_mul 2 ((2 * ((2 * ((2 * 0) + (bN a9 c9 g9 0))) + (bN a9 c9 g9 1))) + (bN a9 c9 g9 2))) ?_
  refine lv_aload_n hx hb dL_areBitsSo_34 rfl (lv_at hl 3 rfl) ?_
  refine lv_iload_n hx hb dL_areBitsSo_35 rfl (lv_at hl 4 rfl) ?_
  refine lv_iload_n hx hb dL_areBitsSo_36 rfl (lv_at hl 5 rfl) ?_
  refine lv_iload_n hx hb dL_areBitsSo_37 rfl (lv_at hl 6 rfl) ?_
  refine lv_iload hx hb dL_areBitsSo_38 (lv_at hl 1 rfl) ?_
  refine z_callG (val := nI (bN a9 c9 g9 3)) (va_runV (As := [.int (nI a9), .int (nI c9), .int (nI g9), .int 3]) (rest := [.int (nI (2 * ((2 * ((2 * ((2 * 0) + (bN a9 c9 g9 0))) + (bN a9 c9 g9 1))) + (bN a9 c9 g9 2))))]) ⟨hx, hb, hml, hown, hts⟩ (pC_bit' l G H.size ad h hx9 hy9 ht9 (i9 := 3) (Nat.le_of_ble_eq_true rfl)) (cwV 4 hts gL_areBitsSo_X5_bit rfl rfl rfl (by decide +kernel) ⟨(Nat.le_of_ble_eq_true rfl), (Nat.le_of_ble_eq_true rfl)⟩) (zV (ci := 5) (q0 := 0) hK hP hD rfl (wCl_0 G ad D)) rfl rfl hl.1 rfl (lv_room (Nat.le_of_ble_eq_true rfl)) dL_areBitsSo_40 ⟨(Nat.le_of_ble_eq_true rfl), (Nat.le_of_ble_eq_true rfl)⟩) hP hD hS hA (fun H locs hP hD hS => ?_)
  refine lv_iadd hx hb dL_areBitsSo_43 ?_
  refine z_top (show nI (2 * ((2 * ((2 * ((2 * 0) + (bN a9 c9 g9 0))) + (bN a9 c9 g9 1))) + (bN a9 c9 g9 2))) + nI (bN a9 c9 g9 3) = nI ((2 * ((2 * ((2 * ((2 * 0) + (bN a9 c9 g9 0))) + (bN a9 c9 g9 1))) + (bN a9 c9 g9 2))) + (bN a9 c9 g9 3)) from nI_add (2 * ((2 * ((2 * ((2 * 0) + (bN a9 c9 g9 0))) + (bN a9 c9 g9 1))) + (bN a9 c9 g9 2))) (bN a9 c9 g9 3)) ?_
  refine lv_istore (lv' := [(5, .int (nI ((2 * ((2 * ((2 * ((2 * 0) + (bN a9 c9 g9 0))) + (bN a9 c9 g9 1))) + (bN a9 c9 g9 2))) + (bN a9 c9 g9 3)))), (4, .int (nI ((((0 + (bN a9 c9 g9 0)) + (bN a9 c9 g9 1)) + (bN a9 c9 g9 2)) + (bN a9 c9 g9 3)))), (6, .int 3), (0, .ref ad.2.2.1), (1, .int (nI a9)), (2, .int (nI c9)), (3, .int (nI g9))]) hx hb dL_areBitsSo_44 hl (by decide) rfl (fun ls hl => ?_)
  refine lv_iinc (v := 4) (lv' := [(6, .int 4), (5, .int (nI ((2 * ((2 * ((2 * ((2 * 0) + (bN a9 c9 g9 0))) + (bN a9 c9 g9 1))) + (bN a9 c9 g9 2))) + (bN a9 c9 g9 3)))), (4, .int (nI ((((0 + (bN a9 c9 g9 0)) + (bN a9 c9 g9 1)) + (bN a9 c9 g9 2)) + (bN a9 c9 g9 3)))), (0, .ref ad.2.2.1), (1, .int (nI a9)), (2, .int (nI c9)), (3, .int (nI g9))]) hx hb dL_areBitsSo_46 hl (k := 2) rfl (by decide) (by decide) rfl (fun ls hl => ?_)
  refine lv_goto (tgt := 9) hx hb dL_areBitsSo_49 (by decide) ?_
  refine lv_iload hx hb dL_areBitsSo_9 (lv_at hl 0 rfl) ?_
  refine lv_bipush (v := 9) hx hb dL_areBitsSo_11 (by decide) ?_
  refine lv_icmp_ge (tgt := 52) hx hb dL_areBitsSo_13 (by decide) (fun c_13 => absurd c_13 (by decide)) (fun c_13 => ?_)
  refine lv_iload hx hb dL_areBitsSo_16 (lv_at hl 2 rfl) ?_
  refine lv_aload_n hx hb dL_areBitsSo_18 rfl (lv_at hl 3 rfl) ?_
  refine lv_iload_n hx hb dL_areBitsSo_19 rfl (lv_at hl 4 rfl) ?_
  refine lv_iload_n hx hb dL_areBitsSo_20 rfl (lv_at hl 5 rfl) ?_
  refine lv_iload_n hx hb dL_areBitsSo_21 rfl (lv_at hl 6 rfl) ?_
  refine lv_iload hx hb dL_areBitsSo_22 (lv_at hl 0 rfl) ?_
  refine z_callG (val := nI (bN a9 c9 g9 4)) (va_runV (As := [.int (nI a9), .int (nI c9), .int (nI g9), .int 4]) (rest := [.int (nI ((((0 + (bN a9 c9 g9 0)) + (bN a9 c9 g9 1)) + (bN a9 c9 g9 2)) + (bN a9 c9 g9 3)))]) ⟨hx, hb, hml, hown, hts⟩ (pC_bit' l G H.size ad h hx9 hy9 ht9 (i9 := 4) (Nat.le_of_ble_eq_true rfl)) (cwV 4 hts gL_areBitsSo_X5_bit rfl rfl rfl (by decide +kernel) ⟨(Nat.le_of_ble_eq_true rfl), (Nat.le_of_ble_eq_true rfl)⟩) (zV (ci := 5) (q0 := 0) hK hP hD rfl (wCl_0 G ad D)) rfl rfl hl.1 rfl (lv_room (Nat.le_of_ble_eq_true rfl)) dL_areBitsSo_24 ⟨(Nat.le_of_ble_eq_true rfl), (Nat.le_of_ble_eq_true rfl)⟩) hP hD hS hA (fun H locs hP hD hS => ?_)
  refine lv_iadd hx hb dL_areBitsSo_27 ?_
  refine z_top (show nI ((((0 + (bN a9 c9 g9 0)) + (bN a9 c9 g9 1)) + (bN a9 c9 g9 2)) + (bN a9 c9 g9 3)) + nI (bN a9 c9 g9 4) = nI (((((0 + (bN a9 c9 g9 0)) + (bN a9 c9 g9 1)) + (bN a9 c9 g9 2)) + (bN a9 c9 g9 3)) + (bN a9 c9 g9 4)) from nI_add ((((0 + (bN a9 c9 g9 0)) + (bN a9 c9 g9 1)) + (bN a9 c9 g9 2)) + (bN a9 c9 g9 3)) (bN a9 c9 g9 4)) ?_
  refine lv_istore (lv' := [(4, .int (nI (((((0 + (bN a9 c9 g9 0)) + (bN a9 c9 g9 1)) + (bN a9 c9 g9 2)) + (bN a9 c9 g9 3)) + (bN a9 c9 g9 4)))), (6, .int 4), (5, .int (nI ((2 * ((2 * ((2 * ((2 * 0) + (bN a9 c9 g9 0))) + (bN a9 c9 g9 1))) + (bN a9 c9 g9 2))) + (bN a9 c9 g9 3)))), (0, .ref ad.2.2.1), (1, .int (nI a9)), (2, .int (nI c9)), (3, .int (nI g9))]) hx hb dL_areBitsSo_28 hl (by decide) rfl (fun ls hl => ?_)
  refine lv_iconst (v := 2) hx hb dL_areBitsSo_30 (by decide) ?_
  refine lv_iload hx hb dL_areBitsSo_31 (lv_at hl 2 rfl) ?_
  refine lv_imul hx hb dL_areBitsSo_33 ?_
  refine z_top (show (2 : Int32) * nI ((2 * ((2 * ((2 * ((2 * 0) + (bN a9 c9 g9 0))) + (bN a9 c9 g9 1))) + (bN a9 c9 g9 2))) + (bN a9 c9 g9 3)) = nI (2 * ((2 * ((2 * ((2 * ((2 * 0) + (bN a9 c9 g9 0))) + (bN a9 c9 g9 1))) + (bN a9 c9 g9 2))) + (bN a9 c9 g9 3))) from pk_mul 2 ((2 * ((2 * ((2 * ((2 * 0) + (bN a9 c9 g9 0))) + (bN a9 c9 g9 1))) + (bN a9 c9 g9 2))) + (bN a9 c9 g9 3))) ?_
  refine lv_aload_n hx hb dL_areBitsSo_34 rfl (lv_at hl 3 rfl) ?_
  refine lv_iload_n hx hb dL_areBitsSo_35 rfl (lv_at hl 4 rfl) ?_
  refine lv_iload_n hx hb dL_areBitsSo_36 rfl (lv_at hl 5 rfl) ?_
  refine lv_iload_n hx hb dL_areBitsSo_37 rfl (lv_at hl 6 rfl) ?_
  refine lv_iload hx hb dL_areBitsSo_38 (lv_at hl 1 rfl) ?_
  refine z_callG (val := nI (bN a9 c9 g9 4)) (va_runV (As := [.int (nI a9), .int (nI c9), .int (nI g9), .int 4]) (rest := [.int (nI (2 * ((2 * ((2 * ((2 * ((2 * 0) + (bN a9 c9 g9 0))) + (bN a9 c9 g9 1))) + (bN a9 c9 g9 2))) + (bN a9 c9 g9 3))))]) ⟨hx, hb, hml, hown, hts⟩ (pC_bit' l G H.size ad h hx9 hy9 ht9 (i9 := 4) (Nat.le_of_ble_eq_true rfl)) (cwV 4 hts gL_areBitsSo_X5_bit rfl rfl rfl (by decide +kernel) ⟨(Nat.le_of_ble_eq_true rfl), (Nat.le_of_ble_eq_true rfl)⟩) (zV (ci := 5) (q0 := 0) hK hP hD rfl (wCl_0 G ad D)) rfl rfl hl.1 rfl (lv_room (Nat.le_of_ble_eq_true rfl)) dL_areBitsSo_40 ⟨(Nat.le_of_ble_eq_true rfl), (Nat.le_of_ble_eq_true rfl)⟩) hP hD hS hA (fun H locs hP hD hS => ?_)
  refine lv_iadd hx hb dL_areBitsSo_43 ?_
  refine z_top (show nI (2 * ((2 * ((2 * ((2 * ((2 * 0) + (bN a9 c9 g9 0))) + (bN a9 c9 g9 1))) + (bN a9 c9 g9 2))) + (bN a9 c9 g9 3))) + nI (bN a9 c9 g9 4) = nI ((2 * ((2 * ((2 * ((2 * ((2 * 0) + (bN a9 c9 g9 0))) + (bN a9 c9 g9 1))) + (bN a9 c9 g9 2))) + (bN a9 c9 g9 3))) + (bN a9 c9 g9 4)) from nI_add (2 * ((2 * ((2 * ((2 * ((2 * 0) + (bN a9 c9 g9 0))) + (bN a9 c9 g9 1))) + (bN a9 c9 g9 2))) + (bN a9 c9 g9 3))) (bN a9 c9 g9 4)) ?_
  refine lv_istore (lv' := [(5, .int (nI ((2 * ((2 * ((2 * ((2 * ((2 * 0) + (bN a9 c9 g9 0))) + (bN a9 c9 g9 1))) + (bN a9 c9 g9 2))) + (bN a9 c9 g9 3))) + (bN a9 c9 g9 4)))), (4, .int (nI (((((0 + (bN a9 c9 g9 0)) + (bN a9 c9 g9 1)) + (bN a9 c9 g9 2)) + (bN a9 c9 g9 3)) + (bN a9 c9 g9 4)))), (6, .int 4), (0, .ref ad.2.2.1), (1, .int (nI a9)), (2, .int (nI c9)), (3, .int (nI g9))]) hx hb dL_areBitsSo_44 hl (by decide) rfl (fun ls hl => ?_)
  refine lv_iinc (v := 5) (lv' := [(6, .int 5), (5, .int (nI ((2 * ((2 * ((2 * ((2 * ((2 * 0) + (bN a9 c9 g9 0))) + (bN a9 c9 g9 1))) + (bN a9 c9 g9 2))) + (bN a9 c9 g9 3))) + (bN a9 c9 g9 4)))), (4, .int (nI (((((0 + (bN a9 c9 g9 0)) + (bN a9 c9 g9 1)) + (bN a9 c9 g9 2)) + (bN a9 c9 g9 3)) + (bN a9 c9 g9 4)))), (0, .ref ad.2.2.1), (1, .int (nI a9)), (2, .int (nI c9)), (3, .int (nI g9))]) hx hb dL_areBitsSo_46 hl (k := 2) rfl (by decide) (by decide) rfl (fun ls hl => ?_)
  refine lv_goto (tgt := 9) hx hb dL_areBitsSo_49 (by decide) ?_
  refine lv_iload hx hb dL_areBitsSo_9 (lv_at hl 0 rfl) ?_
  refine lv_bipush (v := 9) hx hb dL_areBitsSo_11 (by decide) ?_
  refine lv_icmp_ge (tgt := 52) hx hb dL_areBitsSo_13 (by decide) (fun c_16 => absurd c_16 (by decide)) (fun c_16 => ?_)
  refine lv_iload hx hb dL_areBitsSo_16 (lv_at hl 2 rfl) ?_
  refine lv_aload_n hx hb dL_areBitsSo_18 rfl (lv_at hl 3 rfl) ?_
  refine lv_iload_n hx hb dL_areBitsSo_19 rfl (lv_at hl 4 rfl) ?_
  refine lv_iload_n hx hb dL_areBitsSo_20 rfl (lv_at hl 5 rfl) ?_
  refine lv_iload_n hx hb dL_areBitsSo_21 rfl (lv_at hl 6 rfl) ?_
  refine lv_iload hx hb dL_areBitsSo_22 (lv_at hl 0 rfl) ?_
  refine z_callG (val := nI (bN a9 c9 g9 5)) (va_runV (As := [.int (nI a9), .int (nI c9), .int (nI g9), .int 5]) (rest := [.int (nI (((((0 + (bN a9 c9 g9 0)) + (bN a9 c9 g9 1)) + (bN a9 c9 g9 2)) + (bN a9 c9 g9 3)) + (bN a9 c9 g9 4)))]) ⟨hx, hb, hml, hown, hts⟩ (pC_bit' l G H.size ad h hx9 hy9 ht9 (i9 := 5) (Nat.le_of_ble_eq_true rfl)) (cwV 4 hts gL_areBitsSo_X5_bit rfl rfl rfl (by decide +kernel) ⟨(Nat.le_of_ble_eq_true rfl), (Nat.le_of_ble_eq_true rfl)⟩) (zV (ci := 5) (q0 := 0) hK hP hD rfl (wCl_0 G ad D)) rfl rfl hl.1 rfl (lv_room (Nat.le_of_ble_eq_true rfl)) dL_areBitsSo_24 ⟨(Nat.le_of_ble_eq_true rfl), (Nat.le_of_ble_eq_true rfl)⟩) hP hD hS hA (fun H locs hP hD hS => ?_)
  refine lv_iadd hx hb dL_areBitsSo_27 ?_
  refine z_top (show nI (((((0 + (bN a9 c9 g9 0)) + (bN a9 c9 g9 1)) + (bN a9 c9 g9 2)) + (bN a9 c9 g9 3)) + (bN a9 c9 g9 4)) + nI (bN a9 c9 g9 5) = nI ((((((0 + (bN a9 c9 g9 0)) + (bN a9 c9 g9 1)) + (bN a9 c9 g9 2)) + (bN a9 c9 g9 3)) + (bN a9 c9 g9 4)) + (bN a9 c9 g9 5)) from nI_add (((((0 + (bN a9 c9 g9 0)) + (bN a9 c9 g9 1)) + (bN a9 c9 g9 2)) + (bN a9 c9 g9 3)) + (bN a9 c9 g9 4)) (bN a9 c9 g9 5)) ?_
  refine lv_istore (lv' := [(4, .int (nI ((((((0 + (bN a9 c9 g9 0)) + (bN a9 c9 g9 1)) + (bN a9 c9 g9 2)) + (bN a9 c9 g9 3)) + (bN a9 c9 g9 4)) + (bN a9 c9 g9 5)))), (6, .int 5), (5, .int (nI ((2 * ((2 * ((2 * ((2 * ((2 * 0) + (bN a9 c9 g9 0))) + (bN a9 c9 g9 1))) + (bN a9 c9 g9 2))) + (bN a9 c9 g9 3))) + (bN a9 c9 g9 4)))), (0, .ref ad.2.2.1), (1, .int (nI a9)), (2, .int (nI c9)), (3, .int (nI g9))]) hx hb dL_areBitsSo_28 hl (by decide) rfl (fun ls hl => ?_)
  refine lv_iconst (v := 2) hx hb dL_areBitsSo_30 (by decide) ?_
  refine lv_iload hx hb dL_areBitsSo_31 (lv_at hl 2 rfl) ?_
  refine lv_imul hx hb dL_areBitsSo_33 ?_
  refine z_top (show (2 : Int32) * nI ((2 * ((2 * ((2 * ((2 * ((2 * 0) + (bN a9 c9 g9 0))) + (bN a9 c9 g9 1))) + (bN a9 c9 g9 2))) + (bN a9 c9 g9 3))) + (bN a9 c9 g9 4)) = nI (2 * ((2 * ((2 * ((2 * ((2 * ((2 * 0) + (bN a9 c9 g9 0))) + (bN a9 c9 g9 1))) + (bN a9 c9 g9 2))) + (bN a9 c9 g9 3))) + (bN a9 c9 g9 4))) from pk_mul 2 ((2 * ((2 * ((2 * ((2 * ((2 * 0) + (bN a9 c9 g9 0))) + (bN a9 c9 g9 1))) + (bN a9 c9 g9 2))) + (bN a9 c9 g9 3))) + (bN a9 c9 g9 4))) ?_
  refine lv_aload_n hx hb dL_areBitsSo_34 rfl (lv_at hl 3 rfl) ?_
  refine lv_iload_n hx hb dL_areBitsSo_35 rfl (lv_at hl 4 rfl) ?_
  refine lv_iload_n hx hb dL_areBitsSo_36 rfl (lv_at hl 5 rfl) ?_
  refine lv_iload_n hx hb dL_areBitsSo_37 rfl (lv_at hl 6 rfl) ?_
  refine lv_iload hx hb dL_areBitsSo_38 (lv_at hl 1 rfl) ?_
  refine z_callG (val := nI (bN a9 c9 g9 5)) (va_runV (As := [.int (nI a9), .int (nI c9), .int (nI g9), .int 5]) (rest := [.int (nI (2 * ((2 * ((2 * ((2 * ((2 * ((2 * 0) + (bN a9 c9 g9 0))) + (bN a9 c9 g9 1))) + (bN a9 c9 g9 2))) + (bN a9 c9 g9 3))) + (bN a9 c9 g9 4))))]) ⟨hx, hb, hml, hown, hts⟩ (pC_bit' l G H.size ad h hx9 hy9 ht9 (i9 := 5) (Nat.le_of_ble_eq_true rfl)) (cwV 4 hts gL_areBitsSo_X5_bit rfl rfl rfl (by decide +kernel) ⟨(Nat.le_of_ble_eq_true rfl), (Nat.le_of_ble_eq_true rfl)⟩) (zV (ci := 5) (q0 := 0) hK hP hD rfl (wCl_0 G ad D)) rfl rfl hl.1 rfl (lv_room (Nat.le_of_ble_eq_true rfl)) dL_areBitsSo_40 ⟨(Nat.le_of_ble_eq_true rfl), (Nat.le_of_ble_eq_true rfl)⟩) hP hD hS hA (fun H locs hP hD hS => ?_)
  refine lv_iadd hx hb dL_areBitsSo_43 ?_
  refine z_top (show nI (2 * ((2 * ((2 * ((2 * ((2 * ((2 * 0) + (bN a9 c9 g9 0))) + (bN a9 c9 g9 1))) + (bN a9 c9 g9 2))) + (bN a9 c9 g9 3))) + (bN a9 c9 g9 4))) + nI (bN a9 c9 g9 5) = nI ((2 * ((2 * ((2 * ((2 * ((2 * ((2 * 0) + (bN a9 c9 g9 0))) + (bN a9 c9 g9 1))) + (bN a9 c9 g9 2))) + (bN a9 c9 g9 3))) + (bN a9 c9 g9 4))) + (bN a9 c9 g9 5)) from nI_add (2 * ((2 * ((2 * ((2 * ((2 * ((2 * 0) + (bN a9 c9 g9 0))) + (bN a9 c9 g9 1))) + (bN a9 c9 g9 2))) + (bN a9 c9 g9 3))) + (bN a9 c9 g9 4))) (bN a9 c9 g9 5)) ?_
  refine lv_istore (lv' := [(5, .int (nI ((2 * ((2 * ((2 * ((2 * ((2 * ((2 * 0) + (bN a9 c9 g9 0))) + (bN a9 c9 g9 1))) + (bN a9 c9 g9 2))) + (bN a9 c9 g9 3))) + (bN a9 c9 g9 4))) + (bN a9 c9 g9 5)))), (4, .int (nI ((((((0 + (bN a9 c9 g9 0)) + (bN a9 c9 g9 1)) + (bN a9 c9 g9 2)) + (bN a9 c9 g9 3)) + (bN a9 c9 g9 4)) + (bN a9 c9 g9 5)))), (6, .int 5), (0, .ref ad.2.2.1), (1, .int (nI a9)), (2, .int (nI c9)), (3, .int (nI g9))]) hx hb dL_areBitsSo_44 hl (by decide) rfl (fun ls hl => ?_)
  refine lv_iinc (v := 6) (lv' := [(6, .int 6), (5, .int (nI ((2 * ((2 * ((2 * ((2 * ((2 * ((2 * 0) + (bN a9 c9 g9 0))) + (bN a9 c9 g9 1))) + (bN a9 c9 g9 2))) + (bN a9 c9 g9 3))) + (bN a9 c9 g9 4))) + (bN a9 c9 g9 5)))), (4, .int (nI ((((((0 + (bN a9 c9 g9 0)) + (bN a9 c9 g9 1)) + (bN a9 c9 g9 2)) + (bN a9 c9 g9 3)) + (bN a9 c9 g9 4)) + (bN a9 c9 g9 5)))), (0, .ref ad.2.2.1), (1, .int (nI a9)), (2, .int (nI c9)), (3, .int (nI g9))]) hx hb dL_areBitsSo_46 hl (k := 2) rfl (by decide) (by decide) rfl (fun ls hl => ?_)
  refine lv_goto (tgt := 9) hx hb dL_areBitsSo_49 (by decide) ?_
  refine lv_iload hx hb dL_areBitsSo_9 (lv_at hl 0 rfl) ?_
  refine lv_bipush (v := 9) hx hb dL_areBitsSo_11 (by decide) ?_
  refine lv_icmp_ge (tgt := 52) hx hb dL_areBitsSo_13 (by decide) (fun c_19 => absurd c_19 (by decide)) (fun c_19 => ?_)
  refine lv_iload hx hb dL_areBitsSo_16 (lv_at hl 2 rfl) ?_
  refine lv_aload_n hx hb dL_areBitsSo_18 rfl (lv_at hl 3 rfl) ?_
  refine lv_iload_n hx hb dL_areBitsSo_19 rfl (lv_at hl 4 rfl) ?_
  refine lv_iload_n hx hb dL_areBitsSo_20 rfl (lv_at hl 5 rfl) ?_
  refine lv_iload_n hx hb dL_areBitsSo_21 rfl (lv_at hl 6 rfl) ?_
  refine lv_iload hx hb dL_areBitsSo_22 (lv_at hl 0 rfl) ?_
  refine z_callG (val := nI (bN a9 c9 g9 6)) (va_runV (As := [.int (nI a9), .int (nI c9), .int (nI g9), .int 6]) (rest := [.int (nI ((((((0 + (bN a9 c9 g9 0)) + (bN a9 c9 g9 1)) + (bN a9 c9 g9 2)) + (bN a9 c9 g9 3)) + (bN a9 c9 g9 4)) + (bN a9 c9 g9 5)))]) ⟨hx, hb, hml, hown, hts⟩ (pC_bit' l G H.size ad h hx9 hy9 ht9 (i9 := 6) (Nat.le_of_ble_eq_true rfl)) (cwV 4 hts gL_areBitsSo_X5_bit rfl rfl rfl (by decide +kernel) ⟨(Nat.le_of_ble_eq_true rfl), (Nat.le_of_ble_eq_true rfl)⟩) (zV (ci := 5) (q0 := 0) hK hP hD rfl (wCl_0 G ad D)) rfl rfl hl.1 rfl (lv_room (Nat.le_of_ble_eq_true rfl)) dL_areBitsSo_24 ⟨(Nat.le_of_ble_eq_true rfl), (Nat.le_of_ble_eq_true rfl)⟩) hP hD hS hA (fun H locs hP hD hS => ?_)
  refine lv_iadd hx hb dL_areBitsSo_27 ?_
  refine z_top (show nI ((((((0 + (bN a9 c9 g9 0)) + (bN a9 c9 g9 1)) + (bN a9 c9 g9 2)) + (bN a9 c9 g9 3)) + (bN a9 c9 g9 4)) + (bN a9 c9 g9 5)) + nI (bN a9 c9 g9 6) = nI (((((((0 + (bN a9 c9 g9 0)) + (bN a9 c9 g9 1)) + (bN a9 c9 g9 2)) + (bN a9 c9 g9 3)) + (bN a9 c9 g9 4)) + (bN a9 c9 g9 5)) + (bN a9 c9 g9 6)) from nI_add ((((((0 + (bN a9 c9 g9 0)) + (bN a9 c9 g9 1)) + (bN a9 c9 g9 2)) + (bN a9 c9 g9 3)) + (bN a9 c9 g9 4)) + (bN a9 c9 g9 5)) (bN a9 c9 g9 6)) ?_
  refine lv_istore (lv' := [(4, .int (nI (((((((0 + (bN a9 c9 g9 0)) + (bN a9 c9 g9 1)) + (bN a9 c9 g9 2)) + (bN a9 c9 g9 3)) + (bN a9 c9 g9 4)) + (bN a9 c9 g9 5)) + (bN a9 c9 g9 6)))), (6, .int 6), (5, .int (nI ((2 * ((2 * ((2 * ((2 * ((2 * ((2 * 0) + (bN a9 c9 g9 0))) + (bN a9 c9 g9 1))) + (bN a9 c9 g9 2))) + (bN a9 c9 g9 3))) + (bN a9 c9 g9 4))) + (bN a9 c9 g9 5)))), (0, .ref ad.2.2.1), (1, .int (nI a9)), (2, .int (nI c9)), (3, .int (nI g9))]) hx hb dL_areBitsSo_28 hl (by decide) rfl (fun ls hl => ?_)
  refine lv_iconst (v := 2) hx hb dL_areBitsSo_30 (by decide) ?_
  refine lv_iload hx hb dL_areBitsSo_31 (lv_at hl 2 rfl) ?_
  refine lv_imul hx hb dL_areBitsSo_33 ?_
  refine z_top (show (2 : Int32) * nI ((2 * ((2 * ((2 * ((2 * ((2 * ((2 * 0) + (bN a9 c9 g9 0))) + (bN a9 c9 g9 1))) + (bN a9 c9 g9 2))) + (bN a9 c9 g9 3))) + (bN a9 c9 g9 4))) + (bN a9 c9 g9 5)) = nI (2 * ((2 * ((2 * ((2 * ((2 * ((2 * ((2 * 0) + (bN a9 c9 g9 0))) + (bN a9 c9 g9 1))) + (bN a9 c9 g9 2))) + (bN a9 c9 g9 3))) + (bN a9 c9 g9 4))) + (bN a9 c9 g9 5))) from pk_mul 2 ((2 * ((2 * ((2 * ((2 * ((2 * ((2 * 0) + (bN a9 c9 g9 0))) + (bN a9 c9 g9 1))) + (bN a9 c9 g9 2))) + (bN a9 c9 g9 3))) + (bN a9 c9 g9 4))) + (bN a9 c9 g9 5))) ?_
  refine lv_aload_n hx hb dL_areBitsSo_34 rfl (lv_at hl 3 rfl) ?_
  refine lv_iload_n hx hb dL_areBitsSo_35 rfl (lv_at hl 4 rfl) ?_
  refine lv_iload_n hx hb dL_areBitsSo_36 rfl (lv_at hl 5 rfl) ?_
  refine lv_iload_n hx hb dL_areBitsSo_37 rfl (lv_at hl 6 rfl) ?_
  refine lv_iload hx hb dL_areBitsSo_38 (lv_at hl 1 rfl) ?_
  refine z_callG (val := nI (bN a9 c9 g9 6)) (va_runV (As := [.int (nI a9), .int (nI c9), .int (nI g9), .int 6]) (rest := [.int (nI (2 * ((2 * ((2 * ((2 * ((2 * ((2 * ((2 * 0) + (bN a9 c9 g9 0))) + (bN a9 c9 g9 1))) + (bN a9 c9 g9 2))) + (bN a9 c9 g9 3))) + (bN a9 c9 g9 4))) + (bN a9 c9 g9 5))))]) ⟨hx, hb, hml, hown, hts⟩ (pC_bit' l G H.size ad h hx9 hy9 ht9 (i9 := 6) (Nat.le_of_ble_eq_true rfl)) (cwV 4 hts gL_areBitsSo_X5_bit rfl rfl rfl (by decide +kernel) ⟨(Nat.le_of_ble_eq_true rfl), (Nat.le_of_ble_eq_true rfl)⟩) (zV (ci := 5) (q0 := 0) hK hP hD rfl (wCl_0 G ad D)) rfl rfl hl.1 rfl (lv_room (Nat.le_of_ble_eq_true rfl)) dL_areBitsSo_40 ⟨(Nat.le_of_ble_eq_true rfl), (Nat.le_of_ble_eq_true rfl)⟩) hP hD hS hA (fun H locs hP hD hS => ?_)
  refine lv_iadd hx hb dL_areBitsSo_43 ?_
  refine z_top (show nI (2 * ((2 * ((2 * ((2 * ((2 * ((2 * ((2 * 0) + (bN a9 c9 g9 0))) + (bN a9 c9 g9 1))) + (bN a9 c9 g9 2))) + (bN a9 c9 g9 3))) + (bN a9 c9 g9 4))) + (bN a9 c9 g9 5))) + nI (bN a9 c9 g9 6) = nI ((2 * ((2 * ((2 * ((2 * ((2 * ((2 * ((2 * 0) + (bN a9 c9 g9 0))) + (bN a9 c9 g9 1))) + (bN a9 c9 g9 2))) + (bN a9 c9 g9 3))) + (bN a9 c9 g9 4))) + (bN a9 c9 g9 5))) + (bN a9 c9 g9 6)) from nI_add (2 * ((2 * ((2 * ((2 * ((2 * ((2 * ((2 * 0) + (bN a9 c9 g9 0))) + (bN a9 c9 g9 1))) + (bN a9 c9 g9 2))) + (bN a9 c9 g9 3))) + (bN a9 c9 g9 4))) + (bN a9 c9 g9 5))) (bN a9 c9 g9 6)) ?_
  refine lv_istore (lv' := [(5, .int (nI ((2 * ((2 * ((2 * ((2 * ((2 * ((2 * ((2 * 0) + (bN a9 c9 g9 0))) + (bN a9 c9 g9 1))) + (bN a9 c9 g9 2))) + (bN a9 c9 g9 3))) + (bN a9 c9 g9 4))) + (bN a9 c9 g9 5))) + (bN a9 c9 g9 6)))), (4, .int (nI (((((((0 + (bN a9 c9 g9 0)) + (bN a9 c9 g9 1)) + (bN a9 c9 g9 2)) + (bN a9 c9 g9 3)) + (bN a9 c9 g9 4)) + (bN a9 c9 g9 5)) + (bN a9 c9 g9 6)))), (6, .int 6), (0, .ref ad.2.2.1), (1, .int (nI a9)), (2, .int (nI c9)), (3, .int (nI g9))]) hx hb dL_areBitsSo_44 hl (by decide) rfl (fun ls hl => ?_)
  refine lv_iinc (v := 7) (lv' := [(6, .int 7), (5, .int (nI ((2 * ((2 * ((2 * ((2 * ((2 * ((2 * ((2 * 0) + (bN a9 c9 g9 0))) + (bN a9 c9 g9 1))) + (bN a9 c9 g9 2))) + (bN a9 c9 g9 3))) + (bN a9 c9 g9 4))) + (bN a9 c9 g9 5))) + (bN a9 c9 g9 6)))), (4, .int (nI (((((((0 + (bN a9 c9 g9 0)) + (bN a9 c9 g9 1)) + (bN a9 c9 g9 2)) + (bN a9 c9 g9 3)) + (bN a9 c9 g9 4)) + (bN a9 c9 g9 5)) + (bN a9 c9 g9 6)))), (0, .ref ad.2.2.1), (1, .int (nI a9)), (2, .int (nI c9)), (3, .int (nI g9))]) hx hb dL_areBitsSo_46 hl (k := 2) rfl (by decide) (by decide) rfl (fun ls hl => ?_)
  refine lv_goto (tgt := 9) hx hb dL_areBitsSo_49 (by decide) ?_
  refine lv_iload hx hb dL_areBitsSo_9 (lv_at hl 0 rfl) ?_
  refine lv_bipush (v := 9) hx hb dL_areBitsSo_11 (by decide) ?_
  refine lv_icmp_ge (tgt := 52) hx hb dL_areBitsSo_13 (by decide) (fun c_22 => absurd c_22 (by decide)) (fun c_22 => ?_)
  refine lv_iload hx hb dL_areBitsSo_16 (lv_at hl 2 rfl) ?_
  refine lv_aload_n hx hb dL_areBitsSo_18 rfl (lv_at hl 3 rfl) ?_
  refine lv_iload_n hx hb dL_areBitsSo_19 rfl (lv_at hl 4 rfl) ?_
  refine lv_iload_n hx hb dL_areBitsSo_20 rfl (lv_at hl 5 rfl) ?_
  refine lv_iload_n hx hb dL_areBitsSo_21 rfl (lv_at hl 6 rfl) ?_
  refine lv_iload hx hb dL_areBitsSo_22 (lv_at hl 0 rfl) ?_
  refine z_callG (val := nI (bN a9 c9 g9 7)) (va_runV (As := [.int (nI a9), .int (nI c9), .int (nI g9), .int 7]) (rest := [.int (nI (((((((0 + (bN a9 c9 g9 0)) + (bN a9 c9 g9 1)) + (bN a9 c9 g9 2)) + (bN a9 c9 g9 3)) + (bN a9 c9 g9 4)) + (bN a9 c9 g9 5)) + (bN a9 c9 g9 6)))]) ⟨hx, hb, hml, hown, hts⟩ (pC_bit' l G H.size ad h hx9 hy9 ht9 (i9 := 7) (Nat.le_of_ble_eq_true rfl)) (cwV 4 hts gL_areBitsSo_X5_bit rfl rfl rfl (by decide +kernel) ⟨(Nat.le_of_ble_eq_true rfl), (Nat.le_of_ble_eq_true rfl)⟩) (zV (ci := 5) (q0 := 0) hK hP hD rfl (wCl_0 G ad D)) rfl rfl hl.1 rfl (lv_room (Nat.le_of_ble_eq_true rfl)) dL_areBitsSo_24 ⟨(Nat.le_of_ble_eq_true rfl), (Nat.le_of_ble_eq_true rfl)⟩) hP hD hS hA (fun H locs hP hD hS => ?_)
  refine lv_iadd hx hb dL_areBitsSo_27 ?_
  refine z_top (show nI (((((((0 + (bN a9 c9 g9 0)) + (bN a9 c9 g9 1)) + (bN a9 c9 g9 2)) + (bN a9 c9 g9 3)) + (bN a9 c9 g9 4)) + (bN a9 c9 g9 5)) + (bN a9 c9 g9 6)) + nI (bN a9 c9 g9 7) = nI ((((((((0 + (bN a9 c9 g9 0)) + (bN a9 c9 g9 1)) + (bN a9 c9 g9 2)) + (bN a9 c9 g9 3)) + (bN a9 c9 g9 4)) + (bN a9 c9 g9 5)) + (bN a9 c9 g9 6)) + (bN a9 c9 g9 7)) from nI_add (((((((0 + (bN a9 c9 g9 0)) + (bN a9 c9 g9 1)) + (bN a9 c9 g9 2)) + (bN a9 c9 g9 3)) + (bN a9 c9 g9 4)) + (bN a9 c9 g9 5)) + (bN a9 c9 g9 6)) (bN a9 c9 g9 7)) ?_
  refine lv_istore (lv' := [(4, .int (nI ((((((((0 + (bN a9 c9 g9 0)) + (bN a9 c9 g9 1)) + (bN a9 c9 g9 2)) + (bN a9 c9 g9 3)) + (bN a9 c9 g9 4)) + (bN a9 c9 g9 5)) + (bN a9 c9 g9 6)) + (bN a9 c9 g9 7)))), (6, .int 7), (5, .int (nI ((2 * ((2 * ((2 * ((2 * ((2 * ((2 * ((2 * 0) + (bN a9 c9 g9 0))) + (bN a9 c9 g9 1))) + (bN a9 c9 g9 2))) + (bN a9 c9 g9 3))) + (bN a9 c9 g9 4))) + (bN a9 c9 g9 5))) + (bN a9 c9 g9 6)))), (0, .ref ad.2.2.1), (1, .int (nI a9)), (2, .int (nI c9)), (3, .int (nI g9))]) hx hb dL_areBitsSo_28 hl (by decide) rfl (fun ls hl => ?_)
  refine lv_iconst (v := 2) hx hb dL_areBitsSo_30 (by decide) ?_
  refine lv_iload hx hb dL_areBitsSo_31 (lv_at hl 2 rfl) ?_
  refine lv_imul hx hb dL_areBitsSo_33 ?_
  refine z_top (show (2 : Int32) * nI ((2 * ((2 * ((2 * ((2 * ((2 * ((2 * ((2 * 0) + (bN a9 c9 g9 0))) + (bN a9 c9 g9 1))) + (bN a9 c9 g9 2))) + (bN a9 c9 g9 3))) + (bN a9 c9 g9 4))) + (bN a9 c9 g9 5))) + (bN a9 c9 g9 6)) = nI (2 * ((2 * ((2 * ((2 * ((2 * ((2 * ((2 * ((2 * 0) + (bN a9 c9 g9 0))) + (bN a9 c9 g9 1))) + (bN a9 c9 g9 2))) + (bN a9 c9 g9 3))) + (bN a9 c9 g9 4))) + (bN a9 c9 g9 5))) + (bN a9 c9 g9 6))) from pk_mul 2 ((2 * ((2 * ((2 * ((2 * ((2 * ((2 * ((2 * 0) + (bN a9 c9 g9 0))) + (bN a9 c9 g9 1))) + (bN a9 c9 g9 2))) + (bN a9 c9 g9 3))) + (bN a9 c9 g9 4))) + (bN a9 c9 g9 5))) + (bN a9 c9 g9 6))) ?_
  refine lv_aload_n hx hb dL_areBitsSo_34 rfl (lv_at hl 3 rfl) ?_
  refine lv_iload_n hx hb dL_areBitsSo_35 rfl (lv_at hl 4 rfl) ?_
  refine lv_iload_n hx hb dL_areBitsSo_36 rfl (lv_at hl 5 rfl) ?_
  refine lv_iload_n hx hb dL_areBitsSo_37 rfl (lv_at hl 6 rfl) ?_
  refine lv_iload hx hb dL_areBitsSo_38 (lv_at hl 1 rfl) ?_
  refine z_callG (val := nI (bN a9 c9 g9 7)) (va_runV (As := [.int (nI a9), .int (nI c9), .int (nI g9), .int 7]) (rest := [.int (nI (2 * ((2 * ((2 * ((2 * ((2 * ((2 * ((2 * ((2 * 0) + (bN a9 c9 g9 0))) + (bN a9 c9 g9 1))) + (bN a9 c9 g9 2))) + (bN a9 c9 g9 3))) + (bN a9 c9 g9 4))) + (bN a9 c9 g9 5))) + (bN a9 c9 g9 6))))]) ⟨hx, hb, hml, hown, hts⟩ (pC_bit' l G H.size ad h hx9 hy9 ht9 (i9 := 7) (Nat.le_of_ble_eq_true rfl)) (cwV 4 hts gL_areBitsSo_X5_bit rfl rfl rfl (by decide +kernel) ⟨(Nat.le_of_ble_eq_true rfl), (Nat.le_of_ble_eq_true rfl)⟩) (zV (ci := 5) (q0 := 0) hK hP hD rfl (wCl_0 G ad D)) rfl rfl hl.1 rfl (lv_room (Nat.le_of_ble_eq_true rfl)) dL_areBitsSo_40 ⟨(Nat.le_of_ble_eq_true rfl), (Nat.le_of_ble_eq_true rfl)⟩) hP hD hS hA (fun H locs hP hD hS => ?_)
  refine lv_iadd hx hb dL_areBitsSo_43 ?_
  refine z_top (show nI (2 * ((2 * ((2 * ((2 * ((2 * ((2 * ((2 * ((2 * 0) + (bN a9 c9 g9 0))) + (bN a9 c9 g9 1))) + (bN a9 c9 g9 2))) + (bN a9 c9 g9 3))) + (bN a9 c9 g9 4))) + (bN a9 c9 g9 5))) + (bN a9 c9 g9 6))) + nI (bN a9 c9 g9 7) = nI ((2 * ((2 * ((2 * ((2 * ((2 * ((2 * ((2 * ((2 * 0) + (bN a9 c9 g9 0))) + (bN a9 c9 g9 1))) + (bN a9 c9 g9 2))) + (bN a9 c9 g9 3))) + (bN a9 c9 g9 4))) + (bN a9 c9 g9 5))) + (bN a9 c9 g9 6))) + (bN a9 c9 g9 7)) from nI_add (2 * ((2 * ((2 * ((2 * ((2 * ((2 * ((2 * ((2 * 0) + (bN a9 c9 g9 0))) + (bN a9 c9 g9 1))) + (bN a9 c9 g9 2))) + (bN a9 c9 g9 3))) + (bN a9 c9 g9 4))) + (bN a9 c9 g9 5))) + (bN a9 c9 g9 6))) (bN a9 c9 g9 7)) ?_
  refine lv_istore (lv' := [(5, .int (nI ((2 * ((2 * ((2 * ((2 * ((2 * ((2 * ((2 * ((2 * 0) + (bN a9 c9 g9 0))) + (bN a9 c9 g9 1))) + (bN a9 c9 g9 2))) + (bN a9 c9 g9 3))) + (bN a9 c9 g9 4))) + (bN a9 c9 g9 5))) + (bN a9 c9 g9 6))) + (bN a9 c9 g9 7)))), (4, .int (nI ((((((((0 + (bN a9 c9 g9 0)) + (bN a9 c9 g9 1)) + (bN a9 c9 g9 2)) + (bN a9 c9 g9 3)) + (bN a9 c9 g9 4)) + (bN a9 c9 g9 5)) + (bN a9 c9 g9 6)) + (bN a9 c9 g9 7)))), (6, .int 7), (0, .ref ad.2.2.1), (1, .int (nI a9)), (2, .int (nI c9)), (3, .int (nI g9))]) hx hb dL_areBitsSo_44 hl (by decide) rfl (fun ls hl => ?_)
  refine lv_iinc (v := 8) (lv' := [(6, .int 8), (5, .int (nI ((2 * ((2 * ((2 * ((2 * ((2 * ((2 * ((2 * ((2 * 0) + (bN a9 c9 g9 0))) + (bN a9 c9 g9 1))) + (bN a9 c9 g9 2))) + (bN a9 c9 g9 3))) + (bN a9 c9 g9 4))) + (bN a9 c9 g9 5))) + (bN a9 c9 g9 6))) + (bN a9 c9 g9 7)))), (4, .int (nI ((((((((0 + (bN a9 c9 g9 0)) + (bN a9 c9 g9 1)) + (bN a9 c9 g9 2)) + (bN a9 c9 g9 3)) + (bN a9 c9 g9 4)) + (bN a9 c9 g9 5)) + (bN a9 c9 g9 6)) + (bN a9 c9 g9 7)))), (0, .ref ad.2.2.1), (1, .int (nI a9)), (2, .int (nI c9)), (3, .int (nI g9))]) hx hb dL_areBitsSo_46 hl (k := 2) rfl (by decide) (by decide) rfl (fun ls hl => ?_)
  refine lv_goto (tgt := 9) hx hb dL_areBitsSo_49 (by decide) ?_
  refine lv_iload hx hb dL_areBitsSo_9 (lv_at hl 0 rfl) ?_
  refine lv_bipush (v := 9) hx hb dL_areBitsSo_11 (by decide) ?_
  refine lv_icmp_ge (tgt := 52) hx hb dL_areBitsSo_13 (by decide) (fun c_25 => absurd c_25 (by decide)) (fun c_25 => ?_)
  refine lv_iload hx hb dL_areBitsSo_16 (lv_at hl 2 rfl) ?_
  refine lv_aload_n hx hb dL_areBitsSo_18 rfl (lv_at hl 3 rfl) ?_
  refine lv_iload_n hx hb dL_areBitsSo_19 rfl (lv_at hl 4 rfl) ?_
  refine lv_iload_n hx hb dL_areBitsSo_20 rfl (lv_at hl 5 rfl) ?_
  refine lv_iload_n hx hb dL_areBitsSo_21 rfl (lv_at hl 6 rfl) ?_
  refine lv_iload hx hb dL_areBitsSo_22 (lv_at hl 0 rfl) ?_
  refine z_callG (val := nI (bN a9 c9 g9 8)) (va_runV (As := [.int (nI a9), .int (nI c9), .int (nI g9), .int 8]) (rest := [.int (nI ((((((((0 + (bN a9 c9 g9 0)) + (bN a9 c9 g9 1)) + (bN a9 c9 g9 2)) + (bN a9 c9 g9 3)) + (bN a9 c9 g9 4)) + (bN a9 c9 g9 5)) + (bN a9 c9 g9 6)) + (bN a9 c9 g9 7)))]) ⟨hx, hb, hml, hown, hts⟩ (pC_bit' l G H.size ad h hx9 hy9 ht9 (i9 := 8) (Nat.le_of_ble_eq_true rfl)) (cwV 4 hts gL_areBitsSo_X5_bit rfl rfl rfl (by decide +kernel) ⟨(Nat.le_of_ble_eq_true rfl), (Nat.le_of_ble_eq_true rfl)⟩) (zV (ci := 5) (q0 := 0) hK hP hD rfl (wCl_0 G ad D)) rfl rfl hl.1 rfl (lv_room (Nat.le_of_ble_eq_true rfl)) dL_areBitsSo_24 ⟨(Nat.le_of_ble_eq_true rfl), (Nat.le_of_ble_eq_true rfl)⟩) hP hD hS hA (fun H locs hP hD hS => ?_)
  refine lv_iadd hx hb dL_areBitsSo_27 ?_
  refine z_top (show nI ((((((((0 + (bN a9 c9 g9 0)) + (bN a9 c9 g9 1)) + (bN a9 c9 g9 2)) + (bN a9 c9 g9 3)) + (bN a9 c9 g9 4)) + (bN a9 c9 g9 5)) + (bN a9 c9 g9 6)) + (bN a9 c9 g9 7)) + nI (bN a9 c9 g9 8) = nI (((((((((0 + (bN a9 c9 g9 0)) + (bN a9 c9 g9 1)) + (bN a9 c9 g9 2)) + (bN a9 c9 g9 3)) + (bN a9 c9 g9 4)) + (bN a9 c9 g9 5)) + (bN a9 c9 g9 6)) + (bN a9 c9 g9 7)) + (bN a9 c9 g9 8)) from nI_add ((((((((0 + (bN a9 c9 g9 0)) + (bN a9 c9 g9 1)) + (bN a9 c9 g9 2)) + (bN a9 c9 g9 3)) + (bN a9 c9 g9 4)) + (bN a9 c9 g9 5)) + (bN a9 c9 g9 6)) + (bN a9 c9 g9 7)) (bN a9 c9 g9 8)) ?_
  refine lv_istore (lv' := [(4, .int (nI (((((((((0 + (bN a9 c9 g9 0)) + (bN a9 c9 g9 1)) + (bN a9 c9 g9 2)) + (bN a9 c9 g9 3)) + (bN a9 c9 g9 4)) + (bN a9 c9 g9 5)) + (bN a9 c9 g9 6)) + (bN a9 c9 g9 7)) + (bN a9 c9 g9 8)))), (6, .int 8), (5, .int (nI ((2 * ((2 * ((2 * ((2 * ((2 * ((2 * ((2 * ((2 * 0) + (bN a9 c9 g9 0))) + (bN a9 c9 g9 1))) + (bN a9 c9 g9 2))) + (bN a9 c9 g9 3))) + (bN a9 c9 g9 4))) + (bN a9 c9 g9 5))) + (bN a9 c9 g9 6))) + (bN a9 c9 g9 7)))), (0, .ref ad.2.2.1), (1, .int (nI a9)), (2, .int (nI c9)), (3, .int (nI g9))]) hx hb dL_areBitsSo_28 hl (by decide) rfl (fun ls hl => ?_)
  refine lv_iconst (v := 2) hx hb dL_areBitsSo_30 (by decide) ?_
  refine lv_iload hx hb dL_areBitsSo_31 (lv_at hl 2 rfl) ?_
  refine lv_imul hx hb dL_areBitsSo_33 ?_
  refine z_top (show (2 : Int32) * nI ((2 * ((2 * ((2 * ((2 * ((2 * ((2 * ((2 * ((2 * 0) + (bN a9 c9 g9 0))) + (bN a9 c9 g9 1))) + (bN a9 c9 g9 2))) + (bN a9 c9 g9 3))) + (bN a9 c9 g9 4))) + (bN a9 c9 g9 5))) + (bN a9 c9 g9 6))) + (bN a9 c9 g9 7)) = nI (2 * ((2 * ((2 * ((2 * ((2 * ((2 * ((2 * ((2 * ((2 * 0) + (bN a9 c9 g9 0))) + (bN a9 c9 g9 1))) + (bN a9 c9 g9 2))) + (bN a9 c9 g9 3))) + (bN a9 c9 g9 4))) + (bN a9 c9 g9 5))) + (bN a9 c9 g9 6))) + (bN a9 c9 g9 7))) from pk_mul 2 ((2 * ((2 * ((2 * ((2 * ((2 * ((2 * ((2 * ((2 * 0) + (bN a9 c9 g9 0))) + (bN a9 c9 g9 1))) + (bN a9 c9 g9 2))) + (bN a9 c9 g9 3))) + (bN a9 c9 g9 4))) + (bN a9 c9 g9 5))) + (bN a9 c9 g9 6))) + (bN a9 c9 g9 7))) ?_
  refine lv_aload_n hx hb dL_areBitsSo_34 rfl (lv_at hl 3 rfl) ?_
  refine lv_iload_n hx hb dL_areBitsSo_35 rfl (lv_at hl 4 rfl) ?_
  refine lv_iload_n hx hb dL_areBitsSo_36 rfl (lv_at hl 5 rfl) ?_
  refine lv_iload_n hx hb dL_areBitsSo_37 rfl (lv_at hl 6 rfl) ?_
  refine lv_iload hx hb dL_areBitsSo_38 (lv_at hl 1 rfl) ?_
  refine z_callG (val := nI (bN a9 c9 g9 8)) (va_runV (As := [.int (nI a9), .int (nI c9), .int (nI g9), .int 8]) (rest := [.int (nI (2 * ((2 * ((2 * ((2 * ((2 * ((2 * ((2 * ((2 * ((2 * 0) + (bN a9 c9 g9 0))) + (bN a9 c9 g9 1))) + (bN a9 c9 g9 2))) + (bN a9 c9 g9 3))) + (bN a9 c9 g9 4))) + (bN a9 c9 g9 5))) + (bN a9 c9 g9 6))) + (bN a9 c9 g9 7))))]) ⟨hx, hb, hml, hown, hts⟩ (pC_bit' l G H.size ad h hx9 hy9 ht9 (i9 := 8) (Nat.le_of_ble_eq_true rfl)) (cwV 4 hts gL_areBitsSo_X5_bit rfl rfl rfl (by decide +kernel) ⟨(Nat.le_of_ble_eq_true rfl), (Nat.le_of_ble_eq_true rfl)⟩) (zV (ci := 5) (q0 := 0) hK hP hD rfl (wCl_0 G ad D)) rfl rfl hl.1 rfl (lv_room (Nat.le_of_ble_eq_true rfl)) dL_areBitsSo_40 ⟨(Nat.le_of_ble_eq_true rfl), (Nat.le_of_ble_eq_true rfl)⟩) hP hD hS hA (fun H locs hP hD hS => ?_)
  refine lv_iadd hx hb dL_areBitsSo_43 ?_
  refine z_top (show nI (2 * ((2 * ((2 * ((2 * ((2 * ((2 * ((2 * ((2 * ((2 * 0) + (bN a9 c9 g9 0))) + (bN a9 c9 g9 1))) + (bN a9 c9 g9 2))) + (bN a9 c9 g9 3))) + (bN a9 c9 g9 4))) + (bN a9 c9 g9 5))) + (bN a9 c9 g9 6))) + (bN a9 c9 g9 7))) + nI (bN a9 c9 g9 8) = nI ((2 * ((2 * ((2 * ((2 * ((2 * ((2 * ((2 * ((2 * ((2 * 0) + (bN a9 c9 g9 0))) + (bN a9 c9 g9 1))) + (bN a9 c9 g9 2))) + (bN a9 c9 g9 3))) + (bN a9 c9 g9 4))) + (bN a9 c9 g9 5))) + (bN a9 c9 g9 6))) + (bN a9 c9 g9 7))) + (bN a9 c9 g9 8)) from nI_add (2 * ((2 * ((2 * ((2 * ((2 * ((2 * ((2 * ((2 * ((2 * 0) + (bN a9 c9 g9 0))) + (bN a9 c9 g9 1))) + (bN a9 c9 g9 2))) + (bN a9 c9 g9 3))) + (bN a9 c9 g9 4))) + (bN a9 c9 g9 5))) + (bN a9 c9 g9 6))) + (bN a9 c9 g9 7))) (bN a9 c9 g9 8)) ?_
  refine lv_istore (lv' := [(5, .int (nI ((2 * ((2 * ((2 * ((2 * ((2 * ((2 * ((2 * ((2 * ((2 * 0) + (bN a9 c9 g9 0))) + (bN a9 c9 g9 1))) + (bN a9 c9 g9 2))) + (bN a9 c9 g9 3))) + (bN a9 c9 g9 4))) + (bN a9 c9 g9 5))) + (bN a9 c9 g9 6))) + (bN a9 c9 g9 7))) + (bN a9 c9 g9 8)))), (4, .int (nI (((((((((0 + (bN a9 c9 g9 0)) + (bN a9 c9 g9 1)) + (bN a9 c9 g9 2)) + (bN a9 c9 g9 3)) + (bN a9 c9 g9 4)) + (bN a9 c9 g9 5)) + (bN a9 c9 g9 6)) + (bN a9 c9 g9 7)) + (bN a9 c9 g9 8)))), (6, .int 8), (0, .ref ad.2.2.1), (1, .int (nI a9)), (2, .int (nI c9)), (3, .int (nI g9))]) hx hb dL_areBitsSo_44 hl (by decide) rfl (fun ls hl => ?_)
  refine lv_iinc (v := 9) (lv' := [(6, .int 9), (5, .int (nI ((2 * ((2 * ((2 * ((2 * ((2 * ((2 * ((2 * ((2 * ((2 * 0) + (bN a9 c9 g9 0))) + (bN a9 c9 g9 1))) + (bN a9 c9 g9 2))) + (bN a9 c9 g9 3))) + (bN a9 c9 g9 4))) + (bN a9 c9 g9 5))) + (bN a9 c9 g9 6))) + (bN a9 c9 g9 7))) + (bN a9 c9 g9 8)))), (4, .int (nI (((((((((0 + (bN a9 c9 g9 0)) + (bN a9 c9 g9 1)) + (bN a9 c9 g9 2)) + (bN a9 c9 g9 3)) + (bN a9 c9 g9 4)) + (bN a9 c9 g9 5)) + (bN a9 c9 g9 6)) + (bN a9 c9 g9 7)) + (bN a9 c9 g9 8)))), (0, .ref ad.2.2.1), (1, .int (nI a9)), (2, .int (nI c9)), (3, .int (nI g9))]) hx hb dL_areBitsSo_46 hl (k := 2) rfl (by decide) (by decide) rfl (fun ls hl => ?_)
  refine lv_goto (tgt := 9) hx hb dL_areBitsSo_49 (by decide) ?_
  refine lv_iload hx hb dL_areBitsSo_9 (lv_at hl 0 rfl) ?_
  refine lv_bipush (v := 9) hx hb dL_areBitsSo_11 (by decide) ?_
  refine lv_icmp_ge (tgt := 52) hx hb dL_areBitsSo_13 (by decide) (fun c_28 => ?_) (fun c_28 => absurd (by decide) c_28)
  refine lv_iload hx hb dL_areBitsSo_52 (lv_at hl 2 rfl) ?_
  refine lv_iconst (v := 2) hx hb dL_areBitsSo_54 (by decide) ?_
  refine lv_irem hx hb dL_areBitsSo_55 (by decide) ?_
  refine z_top (show nI (((((((((0 + (bN a9 c9 g9 0)) + (bN a9 c9 g9 1)) + (bN a9 c9 g9 2)) + (bN a9 c9 g9 3)) + (bN a9 c9 g9 4)) + (bN a9 c9 g9 5)) + (bN a9 c9 g9 6)) + (bN a9 c9 g9 7)) + (bN a9 c9 g9 8)) - nI (((((((((0 + (bN a9 c9 g9 0)) + (bN a9 c9 g9 1)) + (bN a9 c9 g9 2)) + (bN a9 c9 g9 3)) + (bN a9 c9 g9 4)) + (bN a9 c9 g9 5)) + (bN a9 c9 g9 6)) + (bN a9 c9 g9 7)) + (bN a9 c9 g9 8)) / (2 : Int32) * (2 : Int32) = nI ((((((((((0 + (bN a9 c9 g9 0)) + (bN a9 c9 g9 1)) + (bN a9 c9 g9 2)) + (bN a9 c9 g9 3)) + (bN a9 c9 g9 4)) + (bN a9 c9 g9 5)) + (bN a9 c9 g9 6)) + (bN a9 c9 g9 7)) + (bN a9 c9 g9 8)) % 2) from pk_rem (a := (((((((((0 + (bN a9 c9 g9 0)) + (bN a9 c9 g9 1)) + (bN a9 c9 g9 2)) + (bN a9 c9 g9 3)) + (bN a9 c9 g9 4)) + (bN a9 c9 g9 5)) + (bN a9 c9 g9 6)) + (bN a9 c9 g9 7)) + (bN a9 c9 g9 8))) (d := 2) s1 (by decide) (by decide)) ?_
  refine lv_if_ne (tgt := 80) hx hb dL_areBitsSo_56 (by decide) (fun c_29 => absurd (congrArg nI e1) c_29) (fun c_29 => ?_)
  refine lv_iload hx hb dL_areBitsSo_59 (lv_at hl 1 rfl) ?_
  refine lv_iconst (v := 2) hx hb dL_areBitsSo_61 (by decide) ?_
  refine lv_idiv hx hb dL_areBitsSo_62 (by decide) ?_
  refine z_top (show nI ((2 * ((2 * ((2 * ((2 * ((2 * ((2 * ((2 * ((2 * ((2 * 0) + (bN a9 c9 g9 0))) + (bN a9 c9 g9 1))) + (bN a9 c9 g9 2))) + (bN a9 c9 g9 3))) + (bN a9 c9 g9 4))) + (bN a9 c9 g9 5))) + (bN a9 c9 g9 6))) + (bN a9 c9 g9 7))) + (bN a9 c9 g9 8)) / (2 : Int32) = nI (((2 * ((2 * ((2 * ((2 * ((2 * ((2 * ((2 * ((2 * ((2 * 0) + (bN a9 c9 g9 0))) + (bN a9 c9 g9 1))) + (bN a9 c9 g9 2))) + (bN a9 c9 g9 3))) + (bN a9 c9 g9 4))) + (bN a9 c9 g9 5))) + (bN a9 c9 g9 6))) + (bN a9 c9 g9 7))) + (bN a9 c9 g9 8)) / 2) from pk_div (a := ((2 * ((2 * ((2 * ((2 * ((2 * ((2 * ((2 * ((2 * ((2 * 0) + (bN a9 c9 g9 0))) + (bN a9 c9 g9 1))) + (bN a9 c9 g9 2))) + (bN a9 c9 g9 3))) + (bN a9 c9 g9 4))) + (bN a9 c9 g9 5))) + (bN a9 c9 g9 6))) + (bN a9 c9 g9 7))) + (bN a9 c9 g9 8))) (d := 2) s2 (by decide) (by decide)) ?_
  refine lv_bipush (v := 32) hx hb dL_areBitsSo_63 (by decide) ?_
  refine lv_iload_n hx hb dL_areBitsSo_65 rfl (lv_at hl 4 rfl) ?_
  refine lv_imul hx hb dL_areBitsSo_66 ?_
  refine z_top (show (32 : Int32) * (nI a9) = nI (32 * a9) from pk_mul 32 a9) ?_
  refine lv_iconst (v := 2) hx hb dL_areBitsSo_67 (by decide) ?_
  refine lv_iload_n hx hb dL_areBitsSo_68 rfl (lv_at hl 5 rfl) ?_
  refine lv_imul hx hb dL_areBitsSo_69 ?_
  refine z_top (show (2 : Int32) * (nI c9) = nI (2 * c9) from pk_mul 2 c9) ?_
  refine lv_iadd hx hb dL_areBitsSo_70 ?_
  refine z_top (show nI (32 * a9) + nI (2 * c9) = nI ((32 * a9) + (2 * c9)) from nI_add (32 * a9) (2 * c9)) ?_
  refine lv_iload_n hx hb dL_areBitsSo_71 rfl (lv_at hl 6 rfl) ?_
  refine lv_iadd hx hb dL_areBitsSo_72 ?_
  refine z_top (show nI ((32 * a9) + (2 * c9)) + (nI g9) = nI (((32 * a9) + (2 * c9)) + g9) from nI_add ((32 * a9) + (2 * c9)) g9) ?_
  refine lv_icmp_ne (tgt := 80) hx hb dL_areBitsSo_73 (by decide) (fun c_30 => absurd (congrArg nI e2) c_30) (fun c_30 => ?_)
  refine lv_iconst (v := 1) hx hb dL_areBitsSo_76 (by decide) ?_
  refine lv_goto (tgt := 81) hx hb dL_areBitsSo_77 (by decide) ?_
  exact z_iret hx hb hr rfl hlocks D hP hD hS (Nat.le_of_ble_eq_true rfl) (Nat.le_of_ble_eq_true rfl) dL_areBitsSo_81 ⟨rfl, rfl⟩
end PLB
