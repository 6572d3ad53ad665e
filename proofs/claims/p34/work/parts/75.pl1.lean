section PL1
theorem zw_L_low_c7 : Cond.constant RL 7 (2147483647) ∈ wsL_low := by decide +kernel
set_option maxHeartbeats 4000000 in
set_option maxRecDepth 100000 in
/-- a number below k -/
theorem pL_low (l : Launch) (G : zG) (sz : Nat) (v : Int32) (k : Nat) (hk : 0 < k) (hk2 : k ≤ 1000) : zMi l yL_low wsL_low ({ frames := 0, cells := 0, slots := 0, locals := 0 } : Room) [.int v, .int (nI k)] G [] (fun (r : Int32) (_ : Unit) => r = nI (lowN v k)) (fun _ => []) sz 0 0 := by
  refine zMi_of (cc := cL_low) (maxL := 2) (ret := (some .int)) (by decide) rfl (Nat.le_of_ble_eq_true rfl) ?_
  intro p e s m args below meth c A ls hx hb hr hml hts hown hlocks hnm hK hP hD hAe hS hA hl hsz
  have hown : s.vm.findClass RL = some m.cls := hown
  have hl : lv_has ls 2 [(0, .int v), (1, .int (nI k))] := hl
  refine lv_iload_n hx hb dL_low_0 rfl (lv_at hl 0 rfl) ?_
  refine lv_ldc hx hb hown (v := 2147483647) (hts _ zw_L_low_c7) dL_low_1 ?_
  refine lv_iand hx hb dL_low_3 ?_
  refine lv_iload_n hx hb dL_low_4 rfl (lv_at hl 1 rfl) ?_
  refine lv_irem hx hb dL_low_5 (nI_ne0 hk (by omega)) ?_
  exact z_iret hx hb hr rfl hlocks () hP hD hS (Nat.le_of_ble_eq_true rfl) (Nat.le_of_ble_eq_true rfl) dL_low_6 (low_ok v hk hk2)
theorem z_sld2 {p : Program} {l : Launch} {e : Env} {R0 : Room} {s : State} {m : MethodId} {args : Array Value} {below : List Frame} {meth : Method} {c : Code} {H : Heap} {locs : List Loc} {cells slots : Nat} {Q : State → Prop} {cc : ByteArray} {pc : Nat} {ls : Array Slot} {rest : List Value} {A : Nat → Prop} {H0 : Heap} {bs L : Nat} {xs : Nat → Int32} (hx : p.tables.exec = Jvm.exec) (hb : c.code = cc) (hX : va_X bs L xs s H0) (hbl : bs < H0.size) (hbA : ¬ A bs) (hS : va_S A H0 H locs) (k : Nat) (hk : k < L) (hL : L ≤ 2560) (hdg : decode cc pc = .ok (.iaload, 1))
    (kk : W p l e R0 s m args below meth c H locs cells slots Q (F0 m (pc + 1) ls (.int (xs k) :: rest))) : W p l e R0 s m args below meth c H locs cells slots Q (F0 m pc ls (.int (nI k) :: .ref bs :: rest)) := by
  refine va_sld hx hb hX hbl hbA hS (vp_in_nI hk (by omega)) hdg ?_
  rw [nI_clamp (by omega)]
  exact kk
set_option maxRecDepth 100000 in
theorem pL_cell (l : Launch) (G : zG) (sz : Nat) (b k L : Nat) (hL : L ≤ 260) (hk9 : k < 1000) (xs : Nat → Int32) : zMs l yL_cell wsL_cell ({ frames := 0, cells := 0, slots := 0, locals := 0 } : Room) [.ref b, .int (nI k)] G b L xs (fun _ _ => True) sz := by
  refine zMs_of (cc := cL_cell) (maxL := 2) (ret := (some .int)) (by decide) rfl (Nat.le_of_ble_eq_true rfl) ?_
  intro p e s m args below meth c A ls hx hb hr hml hts hown hlocks hX hbl hbA hS hA hl
  have hl : lv_has ls 2 [(0, .ref b), (1, .int (nI k))] := hl
  refine lv_iload_n hx hb dL_cell_0 rfl (lv_at hl 1 rfl) ?_
  refine lv_aload_n hx hb dL_cell_1 rfl (lv_at hl 0 rfl) ?_
  refine va_slen hx hb hX hbl hbA hS dL_cell_2 ?_
  refine lv_icmp_ge (tgt := 12) hx hb dL_cell_3 (by decide) (fun c_1 => ?_) (fun c_1 => ?_)
  · refine lv_sipush (v := 7919) hx hb dL_cell_12 (by decide) ?_
    refine lv_iload_n hx hb dL_cell_15 rfl (lv_at hl 1 rfl) ?_
    refine lv_iconst (v := 3) hx hb dL_cell_16 (by decide) ?_
    refine lv_iadd hx hb dL_cell_17 ?_
    refine lv_imul hx hb dL_cell_18 ?_
    refine lv_iload_n hx hb dL_cell_19 rfl (lv_at hl 1 rfl) ?_
    refine lv_bipush (v := 11) hx hb dL_cell_20 (by decide) ?_
    refine lv_iadd hx hb dL_cell_22 ?_
    refine lv_imul hx hb dL_cell_23 ?_
    exact z_iret hx hb hr rfl hlocks () (fun k q h => by cases h) ⟨fun i j q r h => (by cases h), fun k q h => (by cases h)⟩ hS (Nat.le_of_ble_eq_true rfl) (Nat.le_of_ble_eq_true rfl) dL_cell_24 trivial
  · refine lv_aload_n hx hb dL_cell_6 rfl (lv_at hl 0 rfl) ?_
    refine lv_iload_n hx hb dL_cell_7 rfl (lv_at hl 1 rfl) ?_
    have hk : k < L := Nat.not_le.mp (fun z => c_1 (nI_le z (by omega)))
    refine z_sld2 hx hb hX hbl hbA hS k hk (by omega) dL_cell_8 ?_
    refine lv_goto (tgt := 24) hx hb dL_cell_9 (by decide) ?_
    exact z_iret hx hb hr rfl hlocks () (fun k q h => by cases h) ⟨fun i j q r h => (by cases h), fun k q h => (by cases h)⟩ hS (Nat.le_of_ble_eq_true rfl) (Nat.le_of_ble_eq_true rfl) dL_cell_24 trivial
set_option maxHeartbeats 4000000 in
set_option maxRecDepth 100000 in
theorem pL_refusals (l : Launch) (G : zG) (sz : Nat) (ad : zAd) {D : zDc} {N : zN} {n : Nat} (h : J n D N) : zMi l yL_refusals wsL_refusals ({ frames := 2, cells := 0, slots := 0, locals := 43 } : Room) [.ref ad.2.2.1] G (wCl G ad D) (fun (v : Int32) (D' : zDc) => v = nI (rfs N) ∧ D' = D) (fun D' => wCl G ad D') sz 0 0 := by
  refine zMi_of (cc := cL_refusals) (maxL := 3) (ret := (some .int)) (by decide) rfl (Nat.le_of_ble_eq_true rfl) ?_
  intro p e s m args below meth c A ls hx hb hr hml hts hown hlocks hnm hK hP hD hAe hS hA hl hsz
  have hown : s.vm.findClass RL = some m.cls := hown
  have hl : lv_has ls 3 [(0, .ref ad.2.2.1)] := hl
  refine lv_iconst (v := 0) hx hb dL_refusals_0 (by decide) ?_
  refine lv_istore_n (lv' := [(1, .int 0), (0, .ref ad.2.2.1)]) hx hb dL_refusals_1 rfl hl (by decide) rfl (fun ls hl => ?_)
  refine lv_iconst (v := 1) hx hb dL_refusals_2 (by decide) ?_
  refine lv_istore_n (lv' := [(2, .int 1), (1, .int 0), (0, .ref ad.2.2.1)]) hx hb dL_refusals_3 rfl hl (by decide) rfl (fun ls hl => ?_)
  refine lv_iload_n hx hb dL_refusals_4 rfl (lv_at hl 0 rfl) ?_
  refine lv_bipush (v := 7) hx hb dL_refusals_5 (by decide) ?_
  refine lv_icmp_ge (tgt := 24) hx hb dL_refusals_7 (by decide) (fun c_1 => absurd ((t_le (show (7 : Int32).toInt = 7 by decide) (show (1 : Int32).toInt = 1 by decide)).mp c_1) (by omega)) (fun c_1 => ?_)
  refine lv_iload_n hx hb dL_refusals_10 rfl (lv_at hl 1 rfl) ?_
  refine lv_aload_n hx hb dL_refusals_11 rfl (lv_at hl 2 rfl) ?_
  refine lv_iload_n hx hb dL_refusals_12 rfl (lv_at hl 0 rfl) ?_
  refine z_callG (val := nI (N 49)) (va_runV (As := [.int 1]) (rest := [.int 0]) ⟨hx, hb, hml, hown, hts⟩ (pC_refused l G s.heap.size ad h (k9 := 1) (Nat.le_of_ble_eq_true rfl) (Nat.le_of_ble_eq_true rfl)) (cwV 1 hts gL_refusals_X5_refused rfl rfl rfl (by decide +kernel) ⟨(Nat.le_of_ble_eq_true rfl), (Nat.le_of_ble_eq_true rfl)⟩) (zV (ci := 5) (q0 := 0) hK hP hD rfl (wCl_0 G ad D)) rfl rfl hl.1 rfl (lv_room (Nat.le_of_ble_eq_true rfl)) dL_refusals_13 ⟨(Nat.le_of_ble_eq_true rfl), (Nat.le_of_ble_eq_true rfl)⟩) hP hD hS hA (fun H locs hP hD hS => ?_)
  refine lv_iadd hx hb dL_refusals_16 ?_
  refine z_top (show (0 : Int32) + nI (N 49) = nI (0 + (N 49)) from nI_add 0 (N 49)) ?_
  refine lv_istore_n (lv' := [(1, .int (nI (0 + (N 49)))), (2, .int 1), (0, .ref ad.2.2.1)]) hx hb dL_refusals_17 rfl hl (by decide) rfl (fun ls hl => ?_)
  refine lv_iinc (v := 2) (lv' := [(2, .int 2), (1, .int (nI (0 + (N 49)))), (0, .ref ad.2.2.1)]) hx hb dL_refusals_18 hl (k := 1) rfl (by decide) (by decide) rfl (fun ls hl => ?_)
  refine lv_goto (tgt := 4) hx hb dL_refusals_21 (by decide) ?_
  refine lv_iload_n hx hb dL_refusals_4 rfl (lv_at hl 0 rfl) ?_
  refine lv_bipush (v := 7) hx hb dL_refusals_5 (by decide) ?_
  refine lv_icmp_ge (tgt := 24) hx hb dL_refusals_7 (by decide) (fun c_3 => absurd ((t_le (show (7 : Int32).toInt = 7 by decide) (show (2 : Int32).toInt = 2 by decide)).mp c_3) (by omega)) (fun c_3 => ?_)
  refine lv_iload_n hx hb dL_refusals_10 rfl (lv_at hl 1 rfl) ?_
  refine lv_aload_n hx hb dL_refusals_11 rfl (lv_at hl 2 rfl) ?_
  refine lv_iload_n hx hb dL_refusals_12 rfl (lv_at hl 0 rfl) ?_
  refine z_callG (val := nI (N 50)) (va_runV (As := [.int 2]) (rest := [.int (nI (0 + (N 49)))]) ⟨hx, hb, hml, hown, hts⟩ (pC_refused l G H.size ad h (k9 := 2) (Nat.le_of_ble_eq_true rfl) (Nat.le_of_ble_eq_true rfl)) (cwV 1 hts gL_refusals_X5_refused rfl rfl rfl (by decide +kernel) ⟨(Nat.le_of_ble_eq_true rfl), (Nat.le_of_ble_eq_true rfl)⟩) (zV (ci := 5) (q0 := 0) hK hP hD rfl (wCl_0 G ad D)) rfl rfl hl.1 rfl (lv_room (Nat.le_of_ble_eq_true rfl)) dL_refusals_13 ⟨(Nat.le_of_ble_eq_true rfl), (Nat.le_of_ble_eq_true rfl)⟩) hP hD hS hA (fun H locs hP hD hS => ?_)
  refine lv_iadd hx hb dL_refusals_16 ?_
  refine z_top (show nI (0 + (N 49)) + nI (N 50) = nI ((0 + (N 49)) + (N 50)) from nI_add (0 + (N 49)) (N 50)) ?_
  refine lv_istore_n (lv' := [(1, .int (nI ((0 + (N 49)) + (N 50)))), (2, .int 2), (0, .ref ad.2.2.1)]) hx hb dL_refusals_17 rfl hl (by decide) rfl (fun ls hl => ?_)
  refine lv_iinc (v := 3) (lv' := [(2, .int 3), (1, .int (nI ((0 + (N 49)) + (N 50)))), (0, .ref ad.2.2.1)]) hx hb dL_refusals_18 hl (k := 1) rfl (by decide) (by decide) rfl (fun ls hl => ?_)
  refine lv_goto (tgt := 4) hx hb dL_refusals_21 (by decide) ?_
  refine lv_iload_n hx hb dL_refusals_4 rfl (lv_at hl 0 rfl) ?_
  refine lv_bipush (v := 7) hx hb dL_refusals_5 (by decide) ?_
  refine lv_icmp_ge (tgt := 24) hx hb dL_refusals_7 (by decide) (fun c_5 => absurd ((t_le (show (7 : Int32).toInt = 7 by decide) (show (3 : Int32).toInt = 3 by decide)).mp c_5) (by omega)) (fun c_5 => ?_)
  refine lv_iload_n hx hb dL_refusals_10 rfl (lv_at hl 1 rfl) ?_
  refine lv_aload_n hx hb dL_refusals_11 rfl (lv_at hl 2 rfl) ?_
  refine lv_iload_n hx hb dL_refusals_12 rfl (lv_at hl 0 rfl) ?_
  refine z_callG (val := nI (N 51)) (va_runV (As := [.int 3]) (rest := [.int (nI ((0 + (N 49)) + (N 50)))]) ⟨hx, hb, hml, hown, hts⟩ (pC_refused l G H.size ad h (k9 := 3) (Nat.le_of_ble_eq_true rfl) (Nat.le_of_ble_eq_true rfl)) (cwV 1 hts gL_refusals_X5_refused rfl rfl rfl (by decide +kernel) ⟨(Nat.le_of_ble_eq_true rfl), (Nat.le_of_ble_eq_true rfl)⟩) (zV (ci := 5) (q0 := 0) hK hP hD rfl (wCl_0 G ad D)) rfl rfl hl.1 rfl (lv_room (Nat.le_of_ble_eq_true rfl)) dL_refusals_13 ⟨(Nat.le_of_ble_eq_true rfl), (Nat.le_of_ble_eq_true rfl)⟩) hP hD hS hA (fun H locs hP hD hS => ?_)
  refine lv_iadd hx hb dL_refusals_16 ?_
  refine z_top (show nI ((0 + (N 49)) + (N 50)) + nI (N 51) = nI (((0 + (N 49)) + (N 50)) + (N 51)) from nI_add ((0 + (N 49)) + (N 50)) (N 51)) ?_
  refine lv_istore_n (lv' := [(1, .int (nI (((0 + (N 49)) + (N 50)) + (N 51)))), (2, .int 3), (0, .ref ad.2.2.1)]) hx hb dL_refusals_17 rfl hl (by decide) rfl (fun ls hl => ?_)
  refine lv_iinc (v := 4) (lv' := [(2, .int 4), (1, .int (nI (((0 + (N 49)) + (N 50)) + (N 51)))), (0, .ref ad.2.2.1)]) hx hb dL_refusals_18 hl (k := 1) rfl (by decide) (by decide) rfl (fun ls hl => ?_)
  refine lv_goto (tgt := 4) hx hb dL_refusals_21 (by decide) ?_
  refine lv_iload_n hx hb dL_refusals_4 rfl (lv_at hl 0 rfl) ?_
  refine lv_bipush (v := 7) hx hb dL_refusals_5 (by decide) ?_
  refine lv_icmp_ge (tgt := 24) hx hb dL_refusals_7 (by decide) (fun c_7 => absurd ((t_le (show (7 : Int32).toInt = 7 by decide) (show (4 : Int32).toInt = 4 by decide)).mp c_7) (by omega)) (fun c_7 => ?_)
  refine lv_iload_n hx hb dL_refusals_10 rfl (lv_at hl 1 rfl) ?_
  refine lv_aload_n hx hb dL_refusals_11 rfl (lv_at hl 2 rfl) ?_
  refine lv_iload_n hx hb dL_refusals_12 rfl (lv_at hl 0 rfl) ?_
  refine z_callG (val := nI (N 52)) (va_runV (As := [.int 4]) (rest := [.int (nI (((0 + (N 49)) + (N 50)) + (N 51)))]) ⟨hx, hb, hml, hown, hts⟩ (pC_refused l G H.size ad h (k9 := 4) (Nat.le_of_ble_eq_true rfl) (Nat.le_of_ble_eq_true rfl)) (cwV 1 hts gL_refusals_X5_refused rfl rfl rfl (by decide +kernel) ⟨(Nat.le_of_ble_eq_true rfl), (Nat.le_of_ble_eq_true rfl)⟩) (zV (ci := 5) (q0 := 0) hK hP hD rfl (wCl_0 G ad D)) rfl rfl hl.1 rfl (lv_room (Nat.le_of_ble_eq_true rfl)) dL_refusals_13 ⟨(Nat.le_of_ble_eq_true rfl), (Nat.le_of_ble_eq_true rfl)⟩) hP hD hS hA (fun H locs hP hD hS => ?_)
  refine lv_iadd hx hb dL_refusals_16 ?_
  refine z_top (show nI (((0 + (N 49)) + (N 50)) + (N 51)) + nI (N 52) = nI ((((0 + (N 49)) + (N 50)) + (N 51)) + (N 52)) from nI_add (((0 + (N 49)) + (N 50)) + (N 51)) (N 52)) ?_
  refine lv_istore_n (lv' := [(1, .int (nI ((((0 + (N 49)) + (N 50)) + (N 51)) + (N 52)))), (2, .int 4), (0, .ref ad.2.2.1)]) hx hb dL_refusals_17 rfl hl (by decide) rfl (fun ls hl => ?_)
  refine lv_iinc (v := 5) (lv' := [(2, .int 5), (1, .int (nI ((((0 + (N 49)) + (N 50)) + (N 51)) + (N 52)))), (0, .ref ad.2.2.1)]) hx hb dL_refusals_18 hl (k := 1) rfl (by decide) (by decide) rfl (fun ls hl => ?_)
  refine lv_goto (tgt := 4) hx hb dL_refusals_21 (by decide) ?_
  refine lv_iload_n hx hb dL_refusals_4 rfl (lv_at hl 0 rfl) ?_
  refine lv_bipush (v := 7) hx hb dL_refusals_5 (by decide) ?_
  refine lv_icmp_ge (tgt := 24) hx hb dL_refusals_7 (by decide) (fun c_9 => absurd ((t_le (show (7 : Int32).toInt = 7 by decide) (show (5 : Int32).toInt = 5 by decide)).mp c_9) (by omega)) (fun c_9 => ?_)
  refine lv_iload_n hx hb dL_refusals_10 rfl (lv_at hl 1 rfl) ?_
  refine lv_aload_n hx hb dL_refusals_11 rfl (lv_at hl 2 rfl) ?_
  refine lv_iload_n hx hb dL_refusals_12 rfl (lv_at hl 0 rfl) ?_
  refine z_callG (val := nI (N 53)) (va_runV (As := [.int 5]) (rest := [.int (nI ((((0 + (N 49)) + (N 50)) + (N 51)) + (N 52)))]) ⟨hx, hb, hml, hown, hts⟩ (pC_refused l G H.size ad h (k9 := 5) (Nat.le_of_ble_eq_true rfl) (Nat.le_of_ble_eq_true rfl)) (cwV 1 hts gL_refusals_X5_refused rfl rfl rfl (by decide +kernel) ⟨(Nat.le_of_ble_eq_true rfl), (Nat.le_of_ble_eq_true rfl)⟩) (zV (ci := 5) (q0 := 0) hK hP hD rfl (wCl_0 G ad D)) rfl rfl hl.1 rfl (lv_room (Nat.le_of_ble_eq_true rfl)) dL_refusals_13 ⟨(Nat.le_of_ble_eq_true rfl), (Nat.le_of_ble_eq_true rfl)⟩) hP hD hS hA (fun H locs hP hD hS => ?_)
  refine lv_iadd hx hb dL_refusals_16 ?_
  refine z_top (show nI ((((0 + (N 49)) + (N 50)) + (N 51)) + (N 52)) + nI (N 53) = nI (((((0 + (N 49)) + (N 50)) + (N 51)) + (N 52)) + (N 53)) from nI_add ((((0 + (N 49)) + (N 50)) + (N 51)) + (N 52)) (N 53)) ?_
  refine lv_istore_n (lv' := [(1, .int (nI (((((0 + (N 49)) + (N 50)) + (N 51)) + (N 52)) + (N 53)))), (2, .int 5), (0, .ref ad.2.2.1)]) hx hb dL_refusals_17 rfl hl (by decide) rfl (fun ls hl => ?_)
  refine lv_iinc (v := 6) (lv' := [(2, .int 6), (1, .int (nI (((((0 + (N 49)) + (N 50)) + (N 51)) + (N 52)) + (N 53)))), (0, .ref ad.2.2.1)]) hx hb dL_refusals_18 hl (k := 1) rfl (by decide) (by decide) rfl (fun ls hl => ?_)
  refine lv_goto (tgt := 4) hx hb dL_refusals_21 (by decide) ?_
  refine lv_iload_n hx hb dL_refusals_4 rfl (lv_at hl 0 rfl) ?_
  refine lv_bipush (v := 7) hx hb dL_refusals_5 (by decide) ?_
  refine lv_icmp_ge (tgt := 24) hx hb dL_refusals_7 (by decide) (fun c_11 => absurd ((t_le (show (7 : Int32).toInt = 7 by decide) (show (6 : Int32).toInt = 6 by decide)).mp c_11) (by omega)) (fun c_11 => ?_)
  refine lv_iload_n hx hb dL_refusals_10 rfl (lv_at hl 1 rfl) ?_
  refine lv_aload_n hx hb dL_refusals_11 rfl (lv_at hl 2 rfl) ?_
  refine lv_iload_n hx hb dL_refusals_12 rfl (lv_at hl 0 rfl) ?_
  refine z_callG (val := nI (N 54)) (va_runV (As := [.int 6]) (rest := [.int (nI (((((0 + (N 49)) + (N 50)) + (N 51)) + (N 52)) + (N 53)))]) ⟨hx, hb, hml, hown, hts⟩ (pC_refused l G H.size ad h (k9 := 6) (Nat.le_of_ble_eq_true rfl) (Nat.le_of_ble_eq_true rfl)) (cwV 1 hts gL_refusals_X5_refused rfl rfl rfl (by decide +kernel) ⟨(Nat.le_of_ble_eq_true rfl), (Nat.le_of_ble_eq_true rfl)⟩) (zV (ci := 5) (q0 := 0) hK hP hD rfl (wCl_0 G ad D)) rfl rfl hl.1 rfl (lv_room (Nat.le_of_ble_eq_true rfl)) dL_refusals_13 ⟨(Nat.le_of_ble_eq_true rfl), (Nat.le_of_ble_eq_true rfl)⟩) hP hD hS hA (fun H locs hP hD hS => ?_)
  refine lv_iadd hx hb dL_refusals_16 ?_
  refine z_top (show nI (((((0 + (N 49)) + (N 50)) + (N 51)) + (N 52)) + (N 53)) + nI (N 54) = nI ((((((0 + (N 49)) + (N 50)) + (N 51)) + (N 52)) + (N 53)) + (N 54)) from nI_add (((((0 + (N 49)) + (N 50)) + (N 51)) + (N 52)) + (N 53)) (N 54)) ?_
  refine lv_istore_n (lv' := [(1, .int (nI ((((((0 + (N 49)) + (N 50)) + (N 51)) + (N 52)) + (N 53)) + (N 54)))), (2, .int 6), (0, .ref ad.2.2.1)]) hx hb dL_refusals_17 rfl hl (by decide) rfl (fun ls hl => ?_)
  refine lv_iinc (v := 7) (lv' := [(2, .int 7), (1, .int (nI ((((((0 + (N 49)) + (N 50)) + (N 51)) + (N 52)) + (N 53)) + (N 54)))), (0, .ref ad.2.2.1)]) hx hb dL_refusals_18 hl (k := 1) rfl (by decide) (by decide) rfl (fun ls hl => ?_)
  refine lv_goto (tgt := 4) hx hb dL_refusals_21 (by decide) ?_
  refine lv_iload_n hx hb dL_refusals_4 rfl (lv_at hl 0 rfl) ?_
  refine lv_bipush (v := 7) hx hb dL_refusals_5 (by decide) ?_
  refine lv_icmp_ge (tgt := 24) hx hb dL_refusals_7 (by decide) (fun c_13 => ?_) (fun c_13 => absurd ((t_le (show (7 : Int32).toInt = 7 by decide) (show (7 : Int32).toInt = 7 by decide)).mpr (by omega)) c_13)
  refine lv_iload_n hx hb dL_refusals_24 rfl (lv_at hl 1 rfl) ?_
  exact z_iret hx hb hr rfl hlocks D hP hD hS (Nat.le_of_ble_eq_true rfl) (Nat.le_of_ble_eq_true rfl) dL_refusals_25 ⟨congrArg nI (by unfold rfs; omega), rfl⟩
end PL1
