section PL1
theorem zw_L_low_c7 : Cond.constant RL 7 (2147483647) ∈ wsL_low := by decide +kernel
set_option maxHeartbeats 4000000 in
set_option maxRecDepth 100000 in
/-- a number below k -/
theorem pL_low (l : Launch) (G : zG) (sz : Nat) (v : Int32) (k : Nat) (hk : 0 < k) (hk2 : k ≤ 1000) : zMi l yL_low wsL_low ({ frames := 0, cells := 0, slots := 0, locals := 0 } : Room) [.int v, .int (nI k)] G [] (fun (r : Int32) (_ : Unit) => r = nI (lowN v k)) (fun _ => []) sz 0 0 := by
  refine zMi_of (cc := cL_low) (maxL := 2) (ret := (some .int)) (by decide) rfl (Nat.le_of_ble_eq_true rfl) ?_
  intro p e s m args below meth c A ls hx hb hr hml hts hown hlocks hnm hK hP hD hAe hS hA hl hsz
  have hown : s.vm.findClass RL = some m.cls := hown
  have hl : lv_has ls 2 [(0, .int v), (1, .int (nI k))] := hl
  refine lv_iload_n hx hb dL_low_0 rfl (lv_at hl 0 rfl) ?_
  refine lv_ldc hx hb hown (v := 2147483647) (hts _ zw_L_low_c7) dL_low_1 ?_
  refine lv_iand hx hb dL_low_3 ?_
  refine lv_iload_n hx hb dL_low_4 rfl (lv_at hl 1 rfl) ?_
  refine lv_irem hx hb dL_low_5 (nI_ne0 hk (by omega)) ?_
  exact z_iret hx hb hr rfl hlocks () hP hD hS (Nat.le_of_ble_eq_true rfl) (Nat.le_of_ble_eq_true rfl) dL_low_6 (low_ok v hk hk2)
theorem z_sld2 {p : Program} {l : Launch} {e : Env} {R0 : Room} {s : State} {m : MethodId} {args : Array Value} {below : List Frame} {meth : Method} {c : Code} {H : Heap} {locs : List Loc} {cells slots : Nat} {Q : State → Prop} {cc : ByteArray} {pc : Nat} {ls : Array Slot} {rest : List Value} {A : Nat → Prop} {H0 : Heap} {bs L : Nat} {xs : Nat → Int32} (hx : p.tables.exec = Jvm.exec) (hb : c.code = cc) (hX : va_X bs L xs s H0) (hbl : bs < H0.size) (hbA : ¬ A bs) (hS : va_S A H0 H locs) (k : Nat) (hk : k < L) (hL : L ≤ 2560) (hdg : decode cc pc = .ok (.iaload, 1))
    (kk : W p l e R0 s m args below meth c H locs cells slots Q (F0 m (pc + 1) ls (.int (xs k) :: rest))) : W p l e R0 s m args below meth c H locs cells slots Q (F0 m pc ls (.int (nI k) :: .ref bs :: rest)) := by
  refine va_sld hx hb hX hbl hbA hS (vp_in_nI hk (by omega)) hdg ?_
  rw [nI_clamp (by omega)]
  exact kk
set_option maxRecDepth 100000 in
theorem pL_cell (l : Launch) (G : zG) (sz : Nat) (b k L : Nat) (hL : L ≤ 260) (hk9 : k < 1000) (xs : Nat → Int32) : zMs l yL_cell wsL_cell ({ frames := 0, cells := 0, slots := 0, locals := 0 } : Room) [.ref b, .int (nI k)] G b L xs (fun _ _ => True) sz := by
  refine zMs_of (cc := cL_cell) (maxL := 2) (ret := (some .int)) (by decide) rfl (Nat.le_of_ble_eq_true rfl) ?_
  intro p e s m args below meth c A ls hx hb hr hml hts hown hlocks hX hbl hbA hS hA hl
  have hl : lv_has ls 2 [(0, .ref b), (1, .int (nI k))] := hl
  refine lv_iload_n hx hb dL_cell_0 rfl (lv_at hl 1 rfl) ?_
  refine lv_aload_n hx hb dL_cell_1 rfl (lv_at hl 0 rfl) ?_
  refine va_slen hx hb hX hbl hbA hS dL_cell_2 ?_
  refine lv_icmp_ge (tgt := 12) hx hb dL_cell_3 (by decide) (fun c_1 => ?_) (fun c_1 => ?_)
  · refine lv_sipush (v := 7919) hx hb dL_cell_12 (by decide) ?_
    refine lv_iload_n hx hb dL_cell_15 rfl (lv_at hl 1 rfl) ?_
    refine lv_iconst (v := 3) hx hb dL_cell_16 (by decide) ?_
    refine lv_iadd hx hb dL_cell_17 ?_
    refine lv_imul hx hb dL_cell_18 ?_
    refine lv_iload_n hx hb dL_cell_19 rfl (lv_at hl 1 rfl) ?_
    refine lv_bipush (v := 11) hx hb dL_cell_20 (by decide) ?_
    refine lv_iadd hx hb dL_cell_22 ?_
    refine lv_imul hx hb dL_cell_23 ?_
    exact z_iret hx hb hr rfl hlocks () (fun k q h => by cases h) ⟨fun i j q r h => (by cases h), fun k q h => (by cases h)⟩ hS (Nat.le_of_ble_eq_true rfl) (Nat.le_of_ble_eq_true rfl) dL_cell_24 trivial
  · refine lv_aload_n hx hb dL_cell_6 rfl (lv_at hl 0 rfl) ?_
    refine lv_iload_n hx hb dL_cell_7 rfl (lv_at hl 1 rfl) ?_
    have hk : k < L := Nat.not_le.mp (fun z => c_1 (nI_le z (by omega)))
    refine z_sld2 hx hb hX hbl hbA hS k hk (by omega) dL_cell_8 ?_
    refine lv_goto (tgt := 24) hx hb dL_cell_9 (by decide) ?_
    exact z_iret hx hb hr rfl hlocks () (fun k q h => by cases h) ⟨fun i j q r h => (by cases h), fun k q h => (by cases h)⟩ hS (Nat.le_of_ble_eq_true rfl) (Nat.le_of_ble_eq_true rfl) dL_cell_24 trivial
set_option maxHeartbeats 4000000 in
set_option maxRecDepth 100000 in
theorem pL_refusals (l : Launch) (G : zG) (sz : Nat) (ad : zAd) {D : zDc} {N : zN} {n : Nat} (h : J n D N) : zMi l yL_refusals wsL_refusals ({ frames := 2, cells := 0, slots := 0, locals := 43 } : Room) [.ref ad.2.2.1] G (wCl G ad D) (fun (v : Int32) (D' : zDc) => v = nI (rfs N) ∧ D' = D) (fun D' => wCl G ad D') sz 0 0 := by
  refine zMi_of (cc := cL_refusals) (maxL := 3) (ret := (some .int)) (by decide) rfl (Nat.le_of_ble_eq_true rfl) ?_
  intro p e s m args below meth c A ls hx hb hr hml hts hown hlocks hnm hK hP hD hAe hS hA hl hsz
  have hown : s.vm.findClass RL = some m.cls := hown
  have hl : lv_has ls 3 [(0, .ref ad.2.2.1)] := hl
  refine lv_iconst (v := 0) hx hb dL_refusals_0 (by decide) ?_
  refine lv_istore_n (lv' := [(1, .int 0), (0, .ref ad.2.2.1)]) hx hb dL_refusals_1 rfl hl (by decide) rfl (fun ls hl => ?_)
  refine lv_iconst (v := 1) hx hb dL_refusals_2 (by decide) ?_
  refine lv_istore_n (lv' := [(2, .int 1), (1, .int 0), (0, .ref ad.2.2.1)]) hx hb dL_refusals_3 rfl hl (by decide) rfl (fun ls hl => ?_)
  refine lv_iload_n hx hb dL_refusals_4 rfl (lv_at hl 0 rfl) ?_
  refine lv_bipush (v := 7) hx hb dL_refusals_5 (by decide) ?_
  refine lv_icmp_ge (tgt := 24) hx hb dL_refusals_7 (by decide) (fun c_1 => absurd ((t_le (show (7 : Int32).toInt = 7 by decide) (show (1 : Int32).toInt = 1 by decide)).mp c_1) (by omega)) (fun c_1 => ?_)
  refine lv_iload_n hx hb dL_refusals_10 rfl (lv_at hl 1 rfl) ?_
  refine lv_aload_n hx hb dL_refusals_11 rfl (lv_at hl 2 rfl) ?_
  refine lv_iload_n hx hb dL_refusals_12 rfl (lv_at hl 0 rfl) ?_
  refine z_callG (val := nI (N 49)) (va_runV (As := [.int 1]) (rest := [.int 0]) ⟨hx, hb, hml, hown, hts⟩ (pC_refused l G s.heap.size ad h (k9 := 1) (Nat.le_of_ble_eq_true rfl) (Nat.le_of_ble_eq_true rfl)) (cwV 1 hts gL_refusals_X5_refused rfl rfl rfl (by decide +kernel) ⟨(Nat.le_of_ble_eq_true rfl), (Nat.le_of_ble_eq_true rfl)⟩) (zV (ci := 5) (q0 := 0) hK hP hD rfl (wCl_0 G ad D)) rfl rfl hl.1 rfl (lv_room (Nat.le_of_ble_eq_true rfl)) dL_refusals_13 ⟨(Nat.le_of_ble_eq_true rfl), (Nat.le_of_ble_eq_true rfl)⟩) hP hD hS hA (fun H locs hP hD hS => ?_)
  refine lv_iadd hx hb dL_refusals_16 ?_
  refine z_top (show (0 : Int32) + nI (N 49) = nI (0 + (N 49)) from nI_add 0 (N 49)) ?_
  refine lv_istore_n (lv' := [(1, .int (nI (0 + (N 49)))), (2, .int 1), (0, .ref ad.2.2.1)]) hx hb dL_refusals_17 rfl hl (by decide) rfl (fun ls hl => ?_)
  refine lv_iinc (v := 2) (lv' := [(2, .int 2), (1, .int (nI (0 + (N 49)))), (0, .ref ad.2.2.1)]) hx hb dL_refusals_18 hl (k := 1) rfl (by decide) (by decide) rfl (fun ls hl => ?_)
  refine lv_goto (tgt := 4) hx hb dL_refusals_21 (by decide) ?_
  refine lv_iload_n hx hb dL_refusals_4 rfl (lv_at hl 0 rfl) ?_
  refine lv_bipush (v := 7) hx hb dL_refusals_5 (by decide) ?_
  refine lv_icmp_ge (tgt := 24) hx hb dL_refusals_7 (by decide) (fun c_3 => absurd ((t_le (show (7 : Int32).toInt = 7 by decide) (show (2 : Int32).toInt = 2 by decide)).mp c_3) (by omega)) (fun c_3 => ?_)
  refine lv_iload_n hx hb dL_refusals_10 rfl (lv_at hl 1 rfl) ?_
  refine lv_aload_n hx hb dL_refusals_11 rfl (lv_at hl 2 rfl) ?_
  refine lv_iload_n hx hb dL_refusals_12 rfl (lv_at hl 0 rfl) ?_
  refine z_callG (val := nI (N 50)) (va_runV (As := [.int 2]) (rest := [.int (nI (0 + (N 49)))]) ⟨hx, hb, hml, hown, hts⟩ (pC_refused l G H.size ad h (k9 := 2) (Nat.le_of_ble_eq_true rfl) (Nat.le_of_ble_eq_true rfl)) (cwV 1 hts gL_refusals_X5_refused rfl rfl rfl (by decide +kernel) ⟨(Nat.le_of_ble_eq_true rfl), (Nat.le_of_ble_eq_true rfl)⟩) (zV (ci := 5) (q0 := 0) hK hP hD rfl (wCl_0 G ad D)) rfl rfl hl.1 rfl (lv_room (Nat.le_of_ble_eq_true rfl)) dL_refusals_13 ⟨(Nat.le_of_ble_eq_true rfl), (Nat.le_of_ble_eq_true rfl)⟩) hP hD hS hA (fun H locs hP hD hS => ?_)
  refine lv_iadd hx hb dL_refusals_16 ?_
  refine z_top (show nI (0 + (N 49)) + nI (N 50) = nI ((0 + (N 49)) + (N 50)) from nI_add (0 + (N 49)) (N 50)) ?_
  refine lv_istore_n (lv' := [(1, .int (nI ((0 + (N 49)) + (N 50)))), (2, .int 2), (0, .ref ad.2.2.1)]) hx hb dL_refusals_17 rfl hl (by decide) rfl (fun ls hl => ?_)
  refine lv_iinc (v := 3) (lv' := [(2, .int 3), (1, .int (nI ((0 + (N 49)) + (N 50)))), (0, .ref ad.2.2.1)]) hx hb dL_refusals_18 hl (k := 1) rfl (by decide) (by decide) rfl (fun ls hl => ?_)
  refine lv_goto (tgt := 4) hx hb dL_refusals_21 (by decide) ?_
  refine lv_iload_n hx hb dL_refusals_4 rfl (lv_at hl 0 rfl) ?_
  refine lv_bipush (v := 7) hx hb dL_refusals_5 (by decide) ?_
  refine lv_icmp_ge (tgt := 24) hx hb dL_refusals_7 (by decide) (fun c_5 => absurd ((t_le (show (7 : Int32).toInt = 7 by decide) (show (3 : Int32).toInt = 3 by decide)).mp c_5) (by omega)) (fun c_5 => ?_)
  refine lv_iload_n hx hb dL_refusals_10 rfl (lv_at hl 1 rfl) ?_
  refine lv_aload_n hx hb dL_refusals_11 rfl (lv_at hl 2 rfl) ?_
  refine lv_iload_n hx hb dL_refusals_12 rfl (lv_at hl 0 rfl) ?_
  refine z_callG (val := nI (N 51)) (va_runV (As := [.int 3]) (rest := [.int (nI ((0 + (N 49)) + (N 50)))]) ⟨hx, hb, hml, hown, hts⟩ (pC_refused l G H.size ad h (k9 := 3) (Nat.le_of_ble_eq_true rfl) (Nat.le_of_ble_eq_true rfl)) (cwV 1 hts gL_refusals_X5_refused rfl rfl rfl (by decide +kernel) ⟨(Nat.le_of_ble_eq_true rfl), (Nat.le_of_ble_eq_true rfl)⟩) (zV (ci := 5) (q0 := 0) hK hP hD rfl (wCl_0 G ad D)) rfl rfl hl.1 rfl (lv_room (Nat.le_of_ble_eq_true rfl)) dL_refusals_13 ⟨(Nat.le_of_ble_eq_true rfl), (Nat.le_of_ble_eq_true rfl)⟩) hP hD hS hA (fun H locs hP hD hS => ?_)
  refine lv_iadd hx hb dL_refusals_16 ?_
  refine z_top (show nI ((0 + (N 49)) + (N 50)) + nI (N 51) = nI (((0 + (N 49)) + (N 50)) + (N 51)) from nI_add ((0 + (N 49)) + (N 50)) (N 51)) ?_
  refine lv_istore_n (lv' := [(1, .int (nI (((0 + (N 49)) + (N 50)) + (N 51)))), (2, .int 3), (0, .ref ad.2.2.1)]) hx hb dL_refusals_17 rfl hl (by decide) rfl (fun ls hl => ?_)
  refine lv_iinc (v := 4) (lv' := [(2, .int 4), (1, .int (nI (((0 + (N 49)) + (N 50)) + (N 51)))), (0, .ref ad.2.2.1)]) hx hb dL_refusals_18 hl (k := 1) rfl (by decide) (by decide) rfl (fun ls hl => ?_)
  refine lv_goto (tgt := 4) hx hb dL_refusals_21 (by decide) ?_
  refine lv_iload_n hx hb dL_refusals_4 rfl (lv_at hl 0 rfl) ?_
  refine lv_bipush (v := 7) hx hb dL_refusals_5 (by decide) ?_
  refine lv_icmp_ge (tgt := 24) hx hb dL_refusals_7 (by decide) (fun c_7 => absurd ((t_le (show (7 : Int32).toInt = 7 by decide) (show (4 : Int32).toInt = 4 by decide)).mp c_7) (by omega)) (fun c_7 => ?_)
  refine lv_iload_n hx hb dL_refusals_10 rfl (lv_at hl 1 rfl) ?_
  refine lv_aload_n hx hb dL_refusals_11 rfl (lv_at hl 2 rfl) ?_
  refine lv_iload_n hx hb dL_refusals_12 rfl (lv_at hl 0 rfl) ?_
  refine z_callG (val := nI (N 52)) (va_runV (As := [.int 4]) (rest := [.int (nI (((0 + (N 49)) + (N 50)) + (N 51)))]) ⟨hx, hb, hml, hown, hts⟩ (pC_refused l G H.size ad h (k9 := 4) (Nat.le_of_ble_eq_true rfl) (Nat.le_of_ble_eq_true rfl)) (cwV 1 hts gL_refusals_X5_refused rfl rfl rfl (by decide +kernel) ⟨(Nat.le_of_ble_eq_true rfl), (Nat.le_of_ble_eq_true rfl)⟩) (zV (ci := 5) (q0 := 0) hK hP hD rfl (wCl_0 G ad D)) rfl rfl hl.1 rfl (lv_room (Nat.le_of_ble_eq_true rfl)) dL_refusals_13 ⟨(Nat.le_of_ble_eq_true rfl), (Nat.le_of_ble_eq_true rfl)⟩) hP hD hS hA (fun H locs hP hD hS => ?_)
  refine lv_iadd hx hb dL_refusals_16 ?_
  refine z_top (show nI (((0 + (N 49)) + (N 50)) + (N 51)) + nI (N 52) = nI ((((0 + (N 49)) + (N 50)) + (N 51)) + (N 52)) from nI_add (((0 + (N 49)) + (N 50)) + (N 51)) (N 52)) ?_
  refine lv_istore_n (lv' := [(1, .int (nI ((((0 + (N 49)) + (N 50)) + (N 51)) + (N 52)))), (2, .int 4), (0, .ref ad.2.2.1)]) hx hb dL_refusals_17 rfl hl (by decide) rfl (fun ls hl => ?_)
  refine lv_iinc (v := 5) (lv' := [(2, .int 5), (1, .int (nI ((((0 + (N 49)) + (N 50)) + (N 51)) + (N 52)))), (0, .ref ad.2.2.1)]) hx hb dL_refusals_18 hl (k := 1) rfl (by decide) (by decide) rfl (fun ls hl => ?_)
  refine lv_goto (tgt := 4) hx hb dL_refusals_21 (by decide) ?_
  refine lv_iload_n hx hb dL_refusals_4 rfl (lv_at hl 0 rfl) ?_
  refine lv_bipush (v := 7) hx hb dL_refusals_5 (by decide) ?_
  refine lv_icmp_ge (tgt := 24) hx hb dL_refusals_7 (by decide) (fun c_9 => absurd ((t_le (show (7 : Int32).toInt = 7 by decide) (show (5 : Int32).toInt = 5 by decide)).mp c_9) (by omega)) (fun c_9 => ?_)
  refine lv_iload_n hx hb dL_refusals_10 rfl (lv_at hl 1 rfl) ?_
  refine lv_aload_n hx hb dL_refusals_11 rfl (lv_at hl 2 rfl) ?_
  refine lv_iload_n hx hb dL_refusals_12 rfl (lv_at hl 0 rfl) ?_
  refine z_callG (val := nI (N 53)) (va_runV (As := [.int 5]) (rest := [.int (nI ((((0 + (N 49)) + (N 50)) + (N 51)) + (N 52)))]) ⟨hx, hb, hml, hown, hts⟩ (pC_refused l G H.size ad h (k9 := 5) (Nat.le_of_ble_eq_true rfl) (Nat.le_of_ble_eq_true rfl)) (cwV 1 hts gL_refusals_X5_refused rfl rfl rfl (by decide +kernel) ⟨(Nat.le_of_ble_eq_true rfl), (Nat.le_of_ble_eq_true rfl)⟩) (zV (ci := 5) (q0 := 0) hK hP hD rfl (wCl_0 G ad D)) rfl rfl hl.1 rfl (lv_room (Nat.le_of_ble_eq_true rfl)) dL_refusals_13 ⟨(Nat.le_of_ble_eq_true rfl), (Nat.le_of_ble_eq_true rfl)⟩) hP hD hS hA (fun H locs hP hD hS => ?_)
  refine lv_iadd hx hb dL_refusals_16 ?_
  refine z_top (show nI ((((0 + (N 49)) + (N 50)) + (N 51)) + (N 52)) + nI (N 53) = nI (((((0 + (N 49)) + (N 50)) + (N 51)) + (N 52)) + (N 53)) from nI_add ((((0 + (N 49)) + (N 50)) + (N 51)) + (N 52)) (N 53)) ?_
  refine lv_istore_n (lv' := [(1, .int (nI (((((0 + (N 49)) + (N 50)) + (N 51)) + (N 52)) + (N 53)))), (2, .int 5), (0, .ref ad.2.2.1)]) hx hb dL_refusals_17 rfl hl (by decide) rfl (fun ls hl => ?_)
  refine lv_iinc (v := 6) (lv' := [(2, .int 6), (1, .int (nI (((((0 + (N 49)) + (N 50)) + (N 51)) + (N 52)) + (N 53)))), (0, .ref ad.2.2.1)]) hx hb dL_refusals_18 hl (k := 1) rfl (by decide) (by decide) rfl (fun ls hl => ?_)
  refine lv_goto (tgt := 4) hx hb dL_refusals_21 (by decide) ?_
  refine lv_iload_n hx hb dL_refusals_4 rfl (lv_at hl 0 rfl) ?_
  refine lv_bipush (v := 7) hx hb dL_refusals_5 (by decide) ?_
  refine lv_icmp_ge (tgt := 24) hx hb dL_refusals_7 (by decide) (fun c_11 => absurd ((t_le (show (7 : Int32).toInt = 7 by decide) (show (6 : Int32).toInt = 6 by decide)).mp c_11) (by omega)) (fun c_11 => ?_)
  refine lv_iload_n hx hb dL_refusals_10 rfl (lv_at hl 1 rfl) ?_
  refine lv_aload_n hx hb dL_refusals_11 rfl (lv_at hl 2 rfl) ?_
  refine lv_iload_n hx hb dL_refusals_12 rfl (lv_at hl 0 rfl) ?_
  refine z_callG (val := nI (N 54)) (va_runV (As := [.int 6]) (rest := [.int (nI (((((0 + (N 49)) + (N 50)) + (N 51)) + (N 52)) + (N 53)))]) ⟨hx, hb, hml, hown, hts⟩ (pC_refused l G H.size ad h (k9 := 6) (Nat.le_of_ble_eq_true rfl) (Nat.le_of_ble_eq_true rfl)) (cwV 1 hts gL_refusals_X5_refused rfl rfl rfl (by decide +kernel) ⟨(Nat.le_of_ble_eq_true rfl), (Nat.le_of_ble_eq_true rfl)⟩) (zV (ci := 5) (q0 := 0) hK hP hD rfl (wCl_0 G ad D)) rfl rfl hl.1 rfl (lv_room (Nat.le_of_ble_eq_true rfl)) dL_refusals_13 ⟨(Nat.le_of_ble_eq_true rfl), (Nat.le_of_ble_eq_true rfl)⟩) hP hD hS hA (fun H locs hP hD hS => ?_)
  refine lv_iadd hx hb dL_refusals_16 ?_
  refine z_top (show nI (((((0 + (N 49)) + (N 50)) + (N 51)) + (N 52)) + (N 53)) + nI (N 54) = nI ((((((0 + (N 49)) + (N 50)) + (N 51)) + (N 52)) + (N 53)) + (N 54)) from nI_add (((((0 + (N 49)) + (N 50)) + (N 51)) + (N 52)) + (N 53)) (N 54)) ?_
  refine lv_istore_n (lv' := [(1, .int (nI ((((((0 + (N 49)) + (N 50)) + (N 51)) + (N 52)) + (N 53)) + (N 54)))), (2, .int 6), (0, .ref ad.2.2.1)]) hx hb dL_refusals_17 rfl hl (by decide) rfl (fun ls hl => ?_)
  refine lv_iinc (v := 7) (lv' := [(2, .int 7), (1, .int (nI ((((((0 + (N 49)) + (N 50)) + (N 51)) + (N 52)) + (N 53)) + (N 54)))), (0, .ref ad.2.2.1)]) hx hb dL_refusals_18 hl (k := 1) rfl (by decide) (by decide) rfl (fun ls hl => ?_)
  refine lv_goto (tgt := 4) hx hb dL_refusals_21 (by decide) ?_
  refine lv_iload_n hx hb dL_refusals_4 rfl (lv_at hl 0 rfl) ?_
  refine lv_bipush (v := 7) hx hb dL_refusals_5 (by decide) ?_
  refine lv_icmp_ge (tgt := 24) hx hb dL_refusals_7 (by decide) (fun c_13 => ?_) (fun c_13 => absurd ((t_le (show (7 : Int32).toInt = 7 by decide) (show (7 : Int32).toInt = 7 by decide)).mpr (by omega)) c_13)
  refine lv_iload_n hx hb dL_refusals_24 rfl (lv_at hl 1 rfl) ?_
  exact z_iret hx hb hr rfl hlocks D hP hD hS (Nat.le_of_ble_eq_true rfl) (Nat.le_of_ble_eq_true rfl) dL_refusals_25 ⟨congrArg nI (by unfold rfs; omega), rfl⟩
set_option maxHeartbeats 4000000 in
set_option maxRecDepth 100000 in
theorem pL_areBitsSo (l : Launch) (G : zG) (sz : Nat) (ad : zAd) {D : zDc} {N : zN} {n : Nat} (h : J n D N) {a9 c9 g9 : Nat} (hx9 : a9 < 8) (hy9 : c9 < 16) (ht9 : g9 < 2) : zMi l yL_areBitsSo wsL_areBitsSo ({ frames := 3, cells := 0, slots := 0, locals := 68 } : Room) [.ref ad.2.2.1, .int (nI a9), .int (nI c9), .int (nI g9)] G (wCl G ad D) (fun (v : Int32) (D' : zDc) => v = 1 ∧ D' = D) (fun D' => wCl G ad D') sz 0 0 := by
  refine zMi_of (cc := cL_areBitsSo) (maxL := 7) (ret := (some .boolean)) (by decide) rfl (Nat.le_of_ble_eq_true rfl) ?_
  intro p e s m args below meth c A ls hx hb hr hml hts hown hlocks hnm hK hP hD hAe hS hA hl hsz
  have hown : s.vm.findClass RL = some m.cls := hown
  have hl : lv_has ls 7 [(0, .ref ad.2.2.1), (1, .int (nI a9)), (2, .int (nI c9)), (3, .int (nI g9))] := hl
  have q0 := bN_lt a9 c9 g9 0
  have q1 := bN_lt a9 c9 g9 1
  have q2 := bN_lt a9 c9 g9 2
  have q3 := bN_lt a9 c9 g9 3
  have q4 := bN_lt a9 c9 g9 4
  have q5 := bN_lt a9 c9 g9 5
  have q6 := bN_lt a9 c9 g9 6
  have q7 := bN_lt a9 c9 g9 7
  have q8 := bN_lt a9 c9 g9 8
  obtain ⟨e1, e2⟩ := bits_ok a9 hx9 c9 hy9 g9 ht9
  refine lv_iconst (v := 0) hx hb dL_areBitsSo_0 (by decide) ?_
  refine lv_istore (lv' := [(4, .int 0), (0, .ref ad.2.2.1), (1, .int (nI a9)), (2, .int (nI c9)), (3, .int (nI g9))]) hx hb dL_areBitsSo_1 hl (by decide) rfl (fun ls hl => ?_)
  refine lv_iconst (v := 0) hx hb dL_areBitsSo_3 (by decide) ?_
  refine lv_istore (lv' := [(5, .int 0), (4, .int 0), (0, .ref ad.2.2.1), (1, .int (nI a9)), (2, .int (nI c9)), (3, .int (nI g9))]) hx hb dL_areBitsSo_4 hl (by decide) rfl (fun ls hl => ?_)
  refine lv_iconst (v := 0) hx hb dL_areBitsSo_6 (by decide) ?_
  refine lv_istore (lv' := [(6, .int 0), (5, .int 0), (4, .int 0), (0, .ref ad.2.2.1), (1, .int (nI a9)), (2, .int (nI c9)), (3, .int (nI g9))]) hx hb dL_areBitsSo_7 hl (by decide) rfl (fun ls hl => ?_)
  refine lv_iload hx hb dL_areBitsSo_9 (lv_at hl 0 rfl) ?_
  refine lv_bipush (v := 9) hx hb dL_areBitsSo_11 (by decide) ?_
  refine lv_icmp_ge (tgt := 52) hx hb dL_areBitsSo_13 (by decide) (fun c_1 => absurd ((t_le (show (9 : Int32).toInt = 9 by decide) (show (0 : Int32).toInt = 0 by decide)).mp c_1) (by omega)) (fun c_1 => ?_)
  refine lv_iload hx hb dL_areBitsSo_16 (lv_at hl 2 rfl) ?_
  refine lv_aload_n hx hb dL_areBitsSo_18 rfl (lv_at hl 3 rfl) ?_
  refine lv_iload_n hx hb dL_areBitsSo_19 rfl (lv_at hl 4 rfl) ?_
  refine lv_iload_n hx hb dL_areBitsSo_20 rfl (lv_at hl 5 rfl) ?_
  refine lv_iload_n hx hb dL_areBitsSo_21 rfl (lv_at hl 6 rfl) ?_
  refine lv_iload hx hb dL_areBitsSo_22 (lv_at hl 0 rfl) ?_
  refine z_callG (val := nI (bN a9 c9 g9 0)) (va_runV (As := [.int (nI a9), .int (nI c9), .int (nI g9), .int 0]) (rest := [.int 0]) ⟨hx, hb, hml, hown, hts⟩ (pC_bit' l G s.heap.size ad h hx9 hy9 ht9 (i9 := 0) (Nat.le_of_ble_eq_true rfl)) (cwV 4 hts gL_areBitsSo_X5_bit rfl rfl rfl (by decide +kernel) ⟨(Nat.le_of_ble_eq_true rfl), (Nat.le_of_ble_eq_true rfl)⟩) (zV (ci := 5) (q0 := 0) hK hP hD rfl (wCl_0 G ad D)) rfl rfl hl.1 rfl (lv_room (Nat.le_of_ble_eq_true rfl)) dL_areBitsSo_24 ⟨(Nat.le_of_ble_eq_true rfl), (Nat.le_of_ble_eq_true rfl)⟩) hP hD hS hA (fun H locs hP hD hS => ?_)
  refine lv_iadd hx hb dL_areBitsSo_27 ?_
  refine z_top (show (0 : Int32) + nI (bN a9 c9 g9 0) = nI (0 + (bN a9 c9 g9 0)) from nI_add 0 (bN a9 c9 g9 0)) ?_
  refine lv_istore (lv' := [(4, .int (nI (0 + (bN a9 c9 g9 0)))), (6, .int 0), (5, .int 0), (0, .ref ad.2.2.1), (1, .int (nI a9)), (2, .int (nI c9)), (3, .int (nI g9))]) hx hb dL_areBitsSo_28 hl (by decide) rfl (fun ls hl => ?_)
  refine lv_iconst (v := 2) hx hb dL_areBitsSo_30 (by decide) ?_
  refine lv_iload hx hb dL_areBitsSo_31 (lv_at hl 2 rfl) ?_
  refine lv_imul hx hb dL_areBitsSo_33 ?_
  refine z_top (show (2 : Int32) * (0 : Int32) = nI (2 * 0) from pk_mul 2 0) ?_
  refine lv_aload_n hx hb dL_areBitsSo_34 rfl (lv_at hl 3 rfl) ?_
  refine lv_iload_n hx hb dL_areBitsSo_35 rfl (lv_at hl 4 rfl) ?_
  refine lv_iload_n hx hb dL_areBitsSo_36 rfl (lv_at hl 5 rfl) ?_
  refine lv_iload_n hx hb dL_areBitsSo_37 rfl (lv_at hl 6 rfl) ?_
  refine lv_iload hx hb dL_areBitsSo_38 (lv_at hl 1 rfl) ?_
  refine z_callG (val := nI (bN a9 c9 g9 0)) (va_runV (As := [.int (nI a9), .int (nI c9), .int (nI g9), .int 0]) (rest := [.int (nI (2 * 0))]) ⟨hx, hb, hml, hown, hts⟩ (pC_bit' l G H.size ad h hx9 hy9 ht9 (i9 := 0) (Nat.le_of_ble_eq_true rfl)) (cwV 4 hts gL_areBitsSo_X5_bit rfl rfl rfl (by decide +kernel) ⟨(Nat.le_of_ble_eq_true rfl), (Nat.le_of_ble_eq_true rfl)⟩) (zV (ci := 5) (q0 := 0) hK hP hD rfl (wCl_0 G ad D)) rfl rfl hl.1 rfl (lv_room (Nat.le_of_ble_eq_true rfl)) dL_areBitsSo_40 ⟨(Nat.le_of_ble_eq_true rfl), (Nat.le_of_ble_eq_true rfl)⟩) hP hD hS hA (fun H locs hP hD hS => ?_)
  refine lv_iadd hx hb dL_areBitsSo_43 ?_
  refine z_top (show nI (2 * 0) + nI (bN a9 c9 g9 0) = nI ((2 * 0) + (bN a9 c9 g9 0)) from nI_add (2 * 0) (bN a9 c9 g9 0)) ?_
  refine lv_istore (lv' := [(5, .int (nI ((2 * 0) + (bN a9 c9 g9 0)))), (4, .int (nI (0 + (bN a9 c9 g9 0)))), (6, .int 0), (0, .ref ad.2.2.1), (1, .int (nI a9)), (2, .int (nI c9)), (3, .int (nI g9))]) hx hb dL_areBitsSo_44 hl (by decide) rfl (fun ls hl => ?_)
  refine lv_iinc (v := 1) (lv' := [(6, .int 1), (5, .int (nI ((2 * 0) + (bN a9 c9 g9 0)))), (4, .int (nI (0 + (bN a9 c9 g9 0)))), (0, .ref ad.2.2.1), (1, .int (nI a9)), (2, .int (nI c9)), (3, .int (nI g9))]) hx hb dL_areBitsSo_46 hl (k := 2) rfl (by decide) (by decide) rfl (fun ls hl => ?_)
  refine lv_goto (tgt := 9) hx hb dL_areBitsSo_49 (by decide) ?_
  refine lv_iload hx hb dL_areBitsSo_9 (lv_at hl 0 rfl) ?_
  refine lv_bipush (v := 9) hx hb dL_areBitsSo_11 (by decide) ?_
  refine lv_icmp_ge (tgt := 52) hx hb dL_areBitsSo_13 (by decide) (fun c_4 => absurd ((t_le (show (9 : Int32).toInt = 9 by decide) (show (1 : Int32).toInt = 1 by decide)).mp c_4) (by omega)) (fun c_4 => ?_)
  refine lv_iload hx hb dL_areBitsSo_16 (lv_at hl 2 rfl) ?_
  refine lv_aload_n hx hb dL_areBitsSo_18 rfl (lv_at hl 3 rfl) ?_
  refine lv_iload_n hx hb dL_areBitsSo_19 rfl (lv_at hl 4 rfl) ?_
  refine lv_iload_n hx hb dL_areBitsSo_20 rfl (lv_at hl 5 rfl) ?_
  refine lv_iload_n hx hb dL_areBitsSo_21 rfl (lv_at hl 6 rfl) ?_
  refine lv_iload hx hb dL_areBitsSo_22 (lv_at hl 0 rfl) ?_
  refine z_callG (val := nI (bN a9 c9 g9 1)) (va_runV (As := [.int (nI a9), .int (nI c9), .int (nI g9), .int 1]) (rest := [.int (nI (0 + (bN a9 c9 g9 0)))]) ⟨hx, hb, hml, hown, hts⟩ (pC_bit' l G H.size ad h hx9 hy9 ht9 (i9 := 1) (Nat.le_of_ble_eq_true rfl)) (cwV 4 hts gL_areBitsSo_X5_bit rfl rfl rfl (by decide +kernel) ⟨(Nat.le_of_ble_eq_true rfl), (Nat.le_of_ble_eq_true rfl)⟩) (zV (ci := 5) (q0 := 0) hK hP hD rfl (wCl_0 G ad D)) rfl rfl hl.1 rfl (lv_room (Nat.le_of_ble_eq_true rfl)) dL_areBitsSo_24 ⟨(Nat.le_of_ble_eq_true rfl), (Nat.le_of_ble_eq_true rfl)⟩) hP hD hS hA (fun H locs hP hD hS => ?_)
  refine lv_iadd hx hb dL_areBitsSo_27 ?_
  refine z_top (show nI (0 + (bN a9 c9 g9 0)) + nI (bN a9 c9 g9 1) = nI ((0 + (bN a9 c9 g9 0)) + (bN a9 c9 g9 1)) from nI_add (0 + (bN a9 c9 g9 0)) (bN a9 c9 g9 1)) ?_
  refine lv_istore (lv' := [(4, .int (nI ((0 + (bN a9 c9 g9 0)) + (bN a9 c9 g9 1)))), (6, .int 1), (5, .int (nI ((2 * 0) + (bN a9 c9 g9 0)))), (0, .ref ad.2.2.1), (1, .int (nI a9)), (2, .int (nI c9)), (3, .int (nI g9))]) hx hb dL_areBitsSo_28 hl (by decide) rfl (fun ls hl => ?_)
  refine lv_iconst (v := 2) hx hb dL_areBitsSo_30 (by decide) ?_
  refine lv_iload hx hb dL_areBitsSo_31 (lv_at hl 2 rfl) ?_
  refine lv_imul hx hb dL_areBitsSo_33 ?_
  refine z_top (show (2 : Int32) * nI ((2 * 0) + (bN a9 c9 g9 0)) = nI (2 * ((2 * 0) + (bN a9 c9 g9 0))) from pk_mul 2 ((2 * 0) + (bN a9 c9 g9 0))) ?_
  refine lv_aload_n hx hb dL_areBitsSo_34 rfl (lv_at hl 3 rfl) ?_
  refine lv_iload_n hx hb dL_areBitsSo_35 rfl (lv_at hl 4 rfl) ?_
  refine lv_iload_n hx hb dL_areBitsSo_36 rfl (lv_at hl 5 rfl) ?_
  refine lv_iload_n hx hb dL_areBitsSo_37 rfl (lv_at hl 6 rfl) ?_
  refine lv_iload hx hb dL_areBitsSo_38 (lv_at hl 1 rfl) ?_
  refine z_callG (val := nI (bN a9 c9 g9 1)) (va_runV (As := [.int (nI a9), .int (nI c9), .int (nI g9), .int 1]) (rest := [.int (nI (2 * ((2 * 0) + (bN a9 c9 g9 0))))]) ⟨hx, hb, hml, hown, hts⟩ (pC_bit' l G H.size ad h hx9 hy9 ht9 (i9 := 1) (Nat.le_of_ble_eq_true rfl)) (cwV 4 hts gL_areBitsSo_X5_bit rfl rfl rfl (by decide +kernel) ⟨(Nat.le_of_ble_eq_true rfl), (Nat.le_of_ble_eq_true rfl)⟩) (zV (ci := 5) (q0 := 0) hK hP hD rfl (wCl_0 G ad D)) rfl rfl hl.1 rfl (lv_room (Nat.le_of_ble_eq_true rfl)) dL_areBitsSo_40 ⟨(Nat.le_of_ble_eq_true rfl), (Nat.le_of_ble_eq_true rfl)⟩) hP hD hS hA (fun H locs hP hD hS => ?_)
  refine lv_iadd hx hb dL_areBitsSo_43 ?_
  refine z_top (show nI (2 * ((2 * 0) + (bN a9 c9 g9 0))) + nI (bN a9 c9 g9 1) = nI ((2 * ((2 * 0) + (bN a9 c9 g9 0))) + (bN a9 c9 g9 1)) from nI_add (2 * ((2 * 0) + (bN a9 c9 g9 0))) (bN a9 c9 g9 1)) ?_
  refine lv_istore (lv' := [(5, .int (nI ((2 * ((2 * 0) + (bN a9 c9 g9 0))) + (bN a9 c9 g9 1)))), (4, .int (nI ((0 + (bN a9 c9 g9 0)) + (bN a9 c9 g9 1)))), (6, .int 1), (0, .ref ad.2.2.1), (1, .int (nI a9)), (2, .int (nI c9)), (3, .int (nI g9))]) hx hb dL_areBitsSo_44 hl (by decide) rfl (fun ls hl => ?_)
  refine lv_iinc (v := 2) (lv' := [(6, .int 2), (5, .int (nI ((2 * ((2 * 0) + (bN a9 c9 g9 0))) + (bN a9 c9 g9 1)))), (4, .int (nI ((0 + (bN a9 c9 g9 0)) + (bN a9 c9 g9 1)))), (0, .ref ad.2.2.1), (1, .int (nI a9)), (2, .int (nI c9)), (3, .int (nI g9))]) hx hb dL_areBitsSo_46 hl (k := 2) rfl (by decide) (by decide) rfl (fun ls hl => ?_)
  refine lv_goto (tgt := 9) hx hb dL_areBitsSo_49 (by decide) ?_
  refine lv_iload hx hb dL_areBitsSo_9 (lv_at hl 0 rfl) ?_
  refine lv_bipush (v := 9) hx hb dL_areBitsSo_11 (by decide) ?_
  refine lv_icmp_ge (tgt := 52) hx hb dL_areBitsSo_13 (by decide) (fun c_7 => absurd ((t_le (show (9 : Int32).toInt = 9 by decide) (show (2 : Int32).toInt = 2 by decide)).mp c_7) (by omega)) (fun c_7 => ?_)
  refine lv_iload hx hb dL_areBitsSo_16 (lv_at hl 2 rfl) ?_
  refine lv_aload_n hx hb dL_areBitsSo_18 rfl (lv_at hl 3 rfl) ?_
  refine lv_iload_n hx hb dL_areBitsSo_19 rfl (lv_at hl 4 rfl) ?_
  refine lv_iload_n hx hb dL_areBitsSo_20 rfl (lv_at hl 5 rfl) ?_
  refine lv_iload_n hx hb dL_areBitsSo_21 rfl (lv_at hl 6 rfl) ?_
  refine lv_iload hx hb dL_areBitsSo_22 (lv_at hl 0 rfl) ?_
  refine z_callG (val := nI (bN a9 c9 g9 2)) (va_runV (As := [.int (nI a9), .int (nI c9), .int (nI g9), .int 2]) (rest := [.int (nI ((0 + (bN a9 c9 g9 0)) + (bN a9 c9 g9 1)))]) ⟨hx, hb, hml, hown, hts⟩ (pC_bit' l G H.size ad h hx9 hy9 ht9 (i9 := 2) (Nat.le_of_ble_eq_true rfl)) (cwV 4 hts gL_areBitsSo_X5_bit rfl rfl rfl (by decide +kernel) ⟨(Nat.le_of_ble_eq_true rfl), (Nat.le_of_ble_eq_true rfl)⟩) (zV (ci := 5) (q0 := 0) hK hP hD rfl (wCl_0 G ad D)) rfl rfl hl.1 rfl (lv_room (Nat.le_of_ble_eq_true rfl)) dL_areBitsSo_24 ⟨(Nat.le_of_ble_eq_true rfl), (Nat.le_of_ble_eq_true rfl)⟩) hP hD hS hA (fun H locs hP hD hS => ?_)
  refine lv_iadd hx hb dL_areBitsSo_27 ?_
  refine z_top (show nI ((0 + (bN a9 c9 g9 0)) + (bN a9 c9 g9 1)) + nI (bN a9 c9 g9 2) = nI (((0 + (bN a9 c9 g9 0)) + (bN a9 c9 g9 1)) + (bN a9 c9 g9 2)) from nI_add ((0 + (bN a9 c9 g9 0)) + (bN a9 c9 g9 1)) (bN a9 c9 g9 2)) ?_
  refine lv_istore (lv' := [(4, .int (nI (((0 + (bN a9 c9 g9 0)) + (bN a9 c9 g9 1)) + (bN a9 c9 g9 2)))), (6, .int 2), (5, .int (nI ((2 * ((2 * 0) + (bN a9 c9 g9 0))) + (bN a9 c9 g9 1)))), (0, .ref ad.2.2.1), (1, .int (nI a9)), (2, .int (nI c9)), (3, .int (nI g9))]) hx hb dL_areBitsSo_28 hl (by decide) rfl (fun ls hl => ?_)
  refine lv_iconst (v := 2) hx hb dL_areBitsSo_30 (by decide) ?_
  refine lv_iload hx hb dL_areBitsSo_31 (lv_at hl 2 rfl) ?_
  refine lv_imul hx hb dL_areBitsSo_33 ?_
  refine z_top (show (2 : Int32) * nI ((2 * ((2 * 0) + (bN a9 c9 g9 0))) + (bN a9 c9 g9 1)) = nI (2 * ((2 * ((2 * 0) + (bN a9 c9 g9 0))) + (bN a9 c9 g9 1))) from pk_mul 2 ((2 * ((2 * 0) + (bN a9 c9 g9 0))) + (bN a9 c9 g9 1))) ?_
  refine lv_aload_n hx hb dL_areBitsSo_34 rfl (lv_at hl 3 rfl) ?_
  refine lv_iload_n hx hb dL_areBitsSo_35 rfl (lv_at hl 4 rfl) ?_
  refine lv_iload_n hx hb dL_areBitsSo_36 rfl (lv_at hl 5 rfl) ?_
  refine lv_iload_n hx hb dL_areBitsSo_37 rfl (lv_at hl 6 rfl) ?_
  refine lv_iload hx hb dL_areBitsSo_38 (lv_at hl 1 rfl) ?_
  refine z_callG (val := nI (bN a9 c9 g9 2)) (va_runV (As := [.int (nI a9), .int (nI c9), .int (nI g9), .int 2]) (rest := [.int (nI (2 * ((2 * ((2 * 0) + (bN a9 c9 g9 0))) + (bN a9 c9 g9 1))))]) ⟨hx, hb, hml, hown, hts⟩ (pC_bit' l G H.size ad h hx9 hy9 ht9 (i9 := 2) (Nat.le_of_ble_eq_true rfl)) (cwV 4 hts gL_areBitsSo_X5_bit rfl rfl rfl (by decide +kernel) ⟨(Nat.le_of_ble_eq_true rfl), (Nat.le_of_ble_eq_true rfl)⟩) (zV (ci := 5) (q0 := 0) hK hP hD rfl (wCl_0 G ad D)) rfl rfl hl.1 rfl (lv_room (Nat.le_of_ble_eq_true rfl)) dL_areBitsSo_40 ⟨(Nat.le_of_ble_eq_true rfl), (Nat.le_of_ble_eq_true rfl)⟩) hP hD hS hA (fun H locs hP hD hS => ?_)
  refine lv_iadd hx hb dL_areBitsSo_43 ?_
  refine z_top (show nI (2 * ((2 * ((2 * 0) + (bN a9 c9 g9 0))) + (bN a9 c9 g9 1))) + nI (bN a9 c9 g9 2) = nI ((2 * ((2 * ((2 * 0) + (bN a9 c9 g9 0))) + (bN a9 c9 g9 1))) + (bN a9 c9 g9 2)) from nI_add (2 * ((2 * ((2 * 0) + (bN a9 c9 g9 0))) + (bN a9 c9 g9 1))) (bN a9 c9 g9 2)) ?_
  refine lv_istore (lv' := [(5, .int (nI ((2 * ((2 * ((2 * 0) + (bN a9 c9 g9 0))) + (bN a9 c9 g9 1))) + (bN a9 c9 g9 2)))), (4, .int (nI (((0 + (bN a9 c9 g9 0)) + (bN a9 c9 g9 1)) + (bN a9 c9 g9 2)))), (6, .int 2), (0, .ref ad.2.2.1), (1, .int (nI a9)), (2, .int (nI c9)), (3, .int (nI g9))]) hx hb dL_areBitsSo_44 hl (by decide) rfl (fun ls hl => ?_)
  refine lv_iinc (v := 3) (lv' := [(6, .int 3), (5, .int (nI ((2 * ((2 * ((2 * 0) + (bN a9 c9 g9 0))) + (bN a9 c9 g9 1))) + (bN a9 c9 g9 2)))), (4, .int (nI (((0 + (bN a9 c9 g9 0)) + (bN a9 c9 g9 1)) + (bN a9 c9 g9 2)))), (0, .ref ad.2.2.1), (1, .int (nI a9)), (2, .int (nI c9)), (3, .int (nI g9))]) hx hb dL_areBitsSo_46 hl (k := 2) rfl (by decide) (by decide) rfl (fun ls hl => ?_)
  refine lv_goto (tgt := 9) hx hb dL_areBitsSo_49 (by decide) ?_
  refine lv_iload hx hb dL_areBitsSo_9 (lv_at hl 0 rfl) ?_
  refine lv_bipush (v := 9) hx hb dL_areBitsSo_11 (by decide) ?_
  refine lv_icmp_ge (tgt := 52) hx hb dL_areBitsSo_13 (by decide) (fun c_10 => absurd ((t_le (show (9 : Int32).toInt = 9 by decide) (show (3 : Int32).toInt = 3 by decide)).mp c_10) (by omega)) (fun c_10 => ?_)
  refine lv_iload hx hb dL_areBitsSo_16 (lv_at hl 2 rfl) ?_
  refine lv_aload_n hx hb dL_areBitsSo_18 rfl (lv_at hl 3 rfl) ?_
  refine lv_iload_n hx hb dL_areBitsSo_19 rfl (lv_at hl 4 rfl) ?_
  refine lv_iload_n hx hb dL_areBitsSo_20 rfl (lv_at hl 5 rfl) ?_
  refine lv_iload_n hx hb dL_areBitsSo_21 rfl (lv_at hl 6 rfl) ?_
  refine lv_iload hx hb dL_areBitsSo_22 (lv_at hl 0 rfl) ?_
  refine z_callG (val := nI (bN a9 c9 g9 3)) (va_runV (As := [.int (nI a9), .int (nI c9), .int (nI g9), .int 3]) (rest := [.int (nI (((0 + (bN a9 c9 g9 0)) + (bN a9 c9 g9 1)) + (bN a9 c9 g9 2)))]) ⟨hx, hb, hml, hown, hts⟩ (pC_bit' l G H.size ad h hx9 hy9 ht9 (i9 := 3) (Nat.le_of_ble_eq_true rfl)) (cwV 4 hts gL_areBitsSo_X5_bit rfl rfl rfl (by decide +kernel) ⟨(Nat.le_of_ble_eq_true rfl), (Nat.le_of_ble_eq_true rfl)⟩) (zV (ci := 5) (q0 := 0) hK hP hD rfl (wCl_0 G ad D)) rfl rfl hl.1 rfl (lv_room (Nat.le_of_ble_eq_true rfl)) dL_areBitsSo_24 ⟨(Nat.le_of_ble_eq_true rfl), (Nat.le_of_ble_eq_true rfl)⟩) hP hD hS hA (fun H locs hP hD hS => ?_)
  refine lv_iadd hx hb dL_areBitsSo_27 ?_
  refine z_top (show nI (((0 + (bN a9 c9 g9 0)) + (bN a9 c9 g9 1)) + (bN a9 c9 g9 2)) + nI (bN a9 c9 g9 3) = nI ((((0 + (bN a9 c9 g9 0)) + (bN a9 c9 g9 1)) + (bN a9 c9 g9 2)) + (bN a9 c9 g9 3)) from nI_add (((0 + (bN a9 c9 g9 0)) + (bN a9 c9 g9 1)) + (bN a9 c9 g9 2)) (bN a9 c9 g9 3)) ?_
  refine lv_istore (lv' := [(4, .int (nI ((((0 + (bN a9 c9 g9 0)) + (bN a9 c9 g9 1)) + (bN a9 c9 g9 2)) + (bN a9 c9 g9 3)))), (6, .int 3), (5, .int (nI ((2 * ((2 * ((2 * 0) + (bN a9 c9 g9 0))) + (bN a9 c9 g9 1))) + (bN a9 c9 g9 2)))), (0, .ref ad.2.2.1), (1, .int (nI a9)), (2, .int (nI c9)), (3, .int (nI g9))]) hx hb dL_areBitsSo_28 hl (by decide) rfl (fun ls hl => ?_)
  refine lv_iconst (v := 2) hx hb dL_areBitsSo_30 (by decide) ?_
  refine lv_iload hx hb dL_areBitsSo_31 (lv_at hl 2 rfl) ?_
  refine lv_imul hx hb dL_areBitsSo_33 ?_
  refine z_top (show (2 : Int32) * nI ((2 * ((2 * ((2 * 0) + (bN a9 c9 g9 0))) + (bN a9 c9 g9 1))) + (bN a9 c9 g9 2)) = nI (2 * ((2 * ((2 * ((2 * 0) + (bN a9 c9 g9 0))) + (bN a9 c9 g9 1))) + (bN a9 c9 g9 2))) from pk_mul 2 ((2 * ((2 * ((2 * 0) + (bN a9 c9 g9 0))) + (bN a9 c9 g9 1))) + (bN a9 c9 g9 2))) ?_
  refine lv_aload_n hx hb dL_areBitsSo_34 rfl (lv_at hl 3 rfl) ?_
  refine lv_iload_n hx hb dL_areBitsSo_35 rfl (lv_at hl 4 rfl) ?_
  refine lv_iload_n hx hb dL_areBitsSo_36 rfl (lv_at hl 5 rfl) ?_
  refine lv_iload_n hx hb dL_areBitsSo_37 rfl (lv_at hl 6 rfl) ?_
  refine lv_iload hx hb dL_areBitsSo_38 (lv_at hl 1 rfl) ?_
  refine z_callG (val := nI (bN a9 c9 g9 3)) (va_runV (As := [.int (nI a9), .int (nI c9), .int (nI g9), .int 3]) (rest := [.int (nI (2 * ((2 * ((2 * ((2 * 0) + (bN a9 c9 g9 0))) + (bN a9 c9 g9 1))) + (bN a9 c9 g9 2))))]) ⟨hx, hb, hml, hown, hts⟩ (pC_bit' l G H.size ad h hx9 hy9 ht9 (i9 := 3) (Nat.le_of_ble_eq_true rfl)) (cwV 4 hts gL_areBitsSo_X5_bit rfl rfl rfl (by decide +kernel) ⟨(Nat.le_of_ble_eq_true rfl), (Nat.le_of_ble_eq_true rfl)⟩) (zV (ci := 5) (q0 := 0) hK hP hD rfl (wCl_0 G ad D)) rfl rfl hl.1 rfl (lv_room (Nat.le_of_ble_eq_true rfl)) dL_areBitsSo_40 ⟨(Nat.le_of_ble_eq_true rfl), (Nat.le_of_ble_eq_true rfl)⟩) hP hD hS hA (fun H locs hP hD hS => ?_)
  refine lv_iadd hx hb dL_areBitsSo_43 ?_
  refine z_top (show nI (2 * ((2 * ((2 * ((2 * 0) + (bN a9 c9 g9 0))) + (bN a9 c9 g9 1))) + (bN a9 c9 g9 2))) + nI (bN a9 c9 g9 3) = nI ((2 * ((2 * ((2 * ((2 * 0) + (bN a9 c9 g9 0))) + (bN a9 c9 g9 1))) + (bN a9 c9 g9 2))) + (bN a9 c9 g9 3)) from nI_add (2 * ((2 * ((2 * ((2 * 0) + (bN a9 c9 g9 0))) + (bN a9 c9 g9 1))) + (bN a9 c9 g9 2))) (bN a9 c9 g9 3)) ?_
  refine lv_istore (lv' := [(5, .int (nI ((2 * ((2 * ((2 * ((2 * 0) + (bN a9 c9 g9 0))) + (bN a9 c9 g9 1))) + (bN a9 c9 g9 2))) + (bN a9 c9 g9 3)))), (4, .int (nI ((((0 + (bN a9 c9 g9 0)) + (bN a9 c9 g9 1)) + (bN a9 c9 g9 2)) + (bN a9 c9 g9 3)))), (6, .int 3), (0, .ref ad.2.2.1), (1, .int (nI a9)), (2, .int (nI c9)), (3, .int (nI g9))]) hx hb dL_areBitsSo_44 hl (by decide) rfl (fun ls hl => ?_)
  refine lv_iinc (v := 4) (lv' := [(6, .int 4), (5, .int (nI ((2 * ((2 * ((2 * ((2 * 0) + (bN a9 c9 g9 0))) + (bN a9 c9 g9 1))) + (bN a9 c9 g9 2))) + (bN a9 c9 g9 3)))), (4, .int (nI ((((0 + (bN a9 c9 g9 0)) + (bN a9 c9 g9 1)) + (bN a9 c9 g9 2)) + (bN a9 c9 g9 3)))), (0, .ref ad.2.2.1), (1, .int (nI a9)), (2, .int (nI c9)), (3, .int (nI g9))]) hx hb dL_areBitsSo_46 hl (k := 2) rfl (by decide) (by decide) rfl (fun ls hl => ?_)
  refine lv_goto (tgt := 9) hx hb dL_areBitsSo_49 (by decide) ?_
  refine lv_iload hx hb dL_areBitsSo_9 (lv_at hl 0 rfl) ?_
  refine lv_bipush (v := 9) hx hb dL_areBitsSo_11 (by decide) ?_
  refine lv_icmp_ge (tgt := 52) hx hb dL_areBitsSo_13 (by decide) (fun c_13 => absurd ((t_le (show (9 : Int32).toInt = 9 by decide) (show (4 : Int32).toInt = 4 by decide)).mp c_13) (by omega)) (fun c_13 => ?_)
  refine lv_iload hx hb dL_areBitsSo_16 (lv_at hl 2 rfl) ?_
  refine lv_aload_n hx hb dL_areBitsSo_18 rfl (lv_at hl 3 rfl) ?_
  refine lv_iload_n hx hb dL_areBitsSo_19 rfl (lv_at hl 4 rfl) ?_
  refine lv_iload_n hx hb dL_areBitsSo_20 rfl (lv_at hl 5 rfl) ?_
  refine lv_iload_n hx hb dL_areBitsSo_21 rfl (lv_at hl 6 rfl) ?_
  refine lv_iload hx hb dL_areBitsSo_22 (lv_at hl 0 rfl) ?_
  refine z_callG (val := nI (bN a9 c9 g9 4)) (va_runV (As := [.int (nI a9), .int (nI c9), .int (nI g9), .int 4]) (rest := [.int (nI ((((0 + (bN a9 c9 g9 0)) + (bN a9 c9 g9 1)) + (bN a9 c9 g9 2)) + (bN a9 c9 g9 3)))]) ⟨hx, hb, hml, hown, hts⟩ (pC_bit' l G H.size ad h hx9 hy9 ht9 (i9 := 4) (Nat.le_of_ble_eq_true rfl)) (cwV 4 hts gL_areBitsSo_X5_bit rfl rfl rfl (by decide +kernel) ⟨(Nat.le_of_ble_eq_true rfl), (Nat.le_of_ble_eq_true rfl)⟩) (zV (ci := 5) (q0 := 0) hK hP hD rfl (wCl_0 G ad D)) rfl rfl hl.1 rfl (lv_room (Nat.le_of_ble_eq_true rfl)) dL_areBitsSo_24 ⟨(Nat.le_of_ble_eq_true rfl), (Nat.le_of_ble_eq_true rfl)⟩) hP hD hS hA (fun H locs hP hD hS => ?_)
  refine lv_iadd hx hb dL_areBitsSo_27 ?_
  refine z_top (show nI ((((0 + (bN a9 c9 g9 0)) + (bN a9 c9 g9 1)) + (bN a9 c9 g9 2)) + (bN a9 c9 g9 3)) + nI (bN a9 c9 g9 4) = nI (((((0 + (bN a9 c9 g9 0)) + (bN a9 c9 g9 1)) + (bN a9 c9 g9 2)) + (bN a9 c9 g9 3)) + (bN a9 c9 g9 4)) from nI_add ((((0 + (bN a9 c9 g9 0)) + (bN a9 c9 g9 1)) + (bN a9 c9 g9 2)) + (bN a9 c9 g9 3)) (bN a9 c9 g9 4)) ?_
  refine lv_istore (lv' := [(4, .int (nI (((((0 + (bN a9 c9 g9 0)) + (bN a9 c9 g9 1)) + (bN a9 c9 g9 2)) + (bN a9 c9 g9 3)) + (bN a9 c9 g9 4)))), (6, .int 4), (5, .int (nI ((2 * ((2 * ((2 * ((2 * 0) + (bN a9 c9 g9 0))) + (bN a9 c9 g9 1))) + (bN a9 c9 g9 2))) + (bN a9 c9 g9 3)))), (0, .ref ad.2.2.1), (1, .int (nI a9)), (2, .int (nI c9)), (3, .int (nI g9))]) hx hb dL_areBitsSo_28 hl (by decide) rfl (fun ls hl => ?_)
  refine lv_iconst (v := 2) hx hb dL_areBitsSo_30 (by decide) ?_
  refine lv_iload hx hb dL_areBitsSo_31 (lv_at hl 2 rfl) ?_
  refine lv_imul hx hb dL_areBitsSo_33 ?_
  refine z_top (show (2 : Int32) * nI ((2 * ((2 * ((2 * ((2 * 0) + (bN a9 c9 g9 0))) + (bN a9 c9 g9 1))) + (bN a9 c9 g9 2))) + (bN a9 c9 g9 3)) = nI (2 * ((2 * ((2 * ((2 * ((2 * 0) + (bN a9 c9 g9 0))) + (bN a9 c9 g9 1))) + (bN a9 c9 g9 2))) + (bN a9 c9 g9 3))) from pk_mul 2 ((2 * ((2 * ((2 * ((2 * 0) + (bN a9 c9 g9 0))) + (bN a9 c9 g9 1))) + (bN a9 c9 g9 2))) + (bN a9 c9 g9 3))) ?_
  refine lv_aload_n hx hb dL_areBitsSo_34 rfl (lv_at hl 3 rfl) ?_
  refine lv_iload_n hx hb dL_areBitsSo_35 rfl (lv_at hl 4 rfl) ?_
  refine lv_iload_n hx hb dL_areBitsSo_36 rfl (lv_at hl 5 rfl) ?_
  refine lv_iload_n hx hb dL_areBitsSo_37 rfl (lv_at hl 6 rfl) ?_
  refine lv_iload hx hb dL_areBitsSo_38 (lv_at hl 1 rfl) ?_
  refine z_callG (val := nI (bN a9 c9 g9 4)) (va_runV (As := [.int (nI a9), .int (nI c9), .int (nI g9), .int 4]) (rest := [.int (nI (2 * ((2 * ((2 * ((2 * ((2 * 0) + (bN a9 c9 g9 0))) + (bN a9 c9 g9 1))) + (bN a9 c9 g9 2))) + (bN a9 c9 g9 3))))]) ⟨hx, hb, hml, hown, hts⟩ (pC_bit' l G H.size ad h hx9 hy9 ht9 (i9 := 4) (Nat.le_of_ble_eq_true rfl)) (cwV 4 hts gL_areBitsSo_X5_bit rfl rfl rfl (by decide +kernel) ⟨(Nat.le_of_ble_eq_true rfl), (Nat.le_of_ble_eq_true rfl)⟩) (zV (ci := 5) (q0 := 0) hK hP hD rfl (wCl_0 G ad D)) rfl rfl hl.1 rfl (lv_room (Nat.le_of_ble_eq_true rfl)) dL_areBitsSo_40 ⟨(Nat.le_of_ble_eq_true rfl), (Nat.le_of_ble_eq_true rfl)⟩) hP hD hS hA (fun H locs hP hD hS => ?_)
  refine lv_iadd hx hb dL_areBitsSo_43 ?_
  refine z_top (show nI (2 * ((2 * ((2 * ((2 * ((2 * 0) + (bN a9 c9 g9 0))) + (bN a9 c9 g9 1))) + (bN a9 c9 g9 2))) + (bN a9 c9 g9 3))) + nI (bN a9 c9 g9 4) = nI ((2 * ((2 * ((2 * ((2 * ((2 * 0) + (bN a9 c9 g9 0))) + (bN a9 c9 g9 1))) + (bN a9 c9 g9 2))) + (bN a9 c9 g9 3))) + (bN a9 c9 g9 4)) from nI_add (2 * ((2 * ((2 * ((2 * ((2 * 0) + (bN a9 c9 g9 0))) + (bN a9 c9 g9 1))) + (bN a9 c9 g9 2))) + (bN a9 c9 g9 3))) (bN a9 c9 g9 4)) ?_
  refine lv_istore (lv' := [(5, .int (nI ((2 * ((2 * ((2 * ((2 * ((2 * 0) + (bN a9 c9 g9 0))) + (bN a9 c9 g9 1))) + (bN a9 c9 g9 2))) + (bN a9 c9 g9 3))) + (bN a9 c9 g9 4)))), (4, .int (nI (((((0 + (bN a9 c9 g9 0)) + (bN a9 c9 g9 1)) + (bN a9 c9 g9 2)) + (bN a9 c9 g9 3)) + (bN a9 c9 g9 4)))), (6, .int 4), (0, .ref ad.2.2.1), (1, .int (nI a9)), (2, .int (nI c9)), (3, .int (nI g9))]) hx hb dL_areBitsSo_44 hl (by decide) rfl (fun ls hl => ?_)
  refine lv_iinc (v := 5) (lv' := [(6, .int 5), (5, .int (nI ((2 * ((2 * ((2 * ((2 * ((2 * 0) + (bN a9 c9 g9 0))) + (bN a9 c9 g9 1))) + (bN a9 c9 g9 2))) + (bN a9 c9 g9 3))) + (bN a9 c9 g9 4)))), (4, .int (nI (((((0 + (bN a9 c9 g9 0)) + (bN a9 c9 g9 1)) + (bN a9 c9 g9 2)) + (bN a9 c9 g9 3)) + (bN a9 c9 g9 4)))), (0, .ref ad.2.2.1), (1, .int (nI a9)), (2, .int (nI c9)), (3, .int (nI g9))]) hx hb dL_areBitsSo_46 hl (k := 2) rfl (by decide) (by decide) rfl (fun ls hl => ?_)
  refine lv_goto (tgt := 9) hx hb dL_areBitsSo_49 (by decide) ?_
  refine lv_iload hx hb dL_areBitsSo_9 (lv_at hl 0 rfl) ?_
  refine lv_bipush (v := 9) hx hb dL_areBitsSo_11 (by decide) ?_
  refine lv_icmp_ge (tgt := 52) hx hb dL_areBitsSo_13 (by decide) (fun c_16 => absurd ((t_le (show (9 : Int32).toInt = 9 by decide) (show (5 : Int32).toInt = 5 by decide)).mp c_16) (by omega)) (fun c_16 => ?_)
  refine lv_iload hx hb dL_areBitsSo_16 (lv_at hl 2 rfl) ?_
  refine lv_aload_n hx hb dL_areBitsSo_18 rfl (lv_at hl 3 rfl) ?_
  refine lv_iload_n hx hb dL_areBitsSo_19 rfl (lv_at hl 4 rfl) ?_
  refine lv_iload_n hx hb dL_areBitsSo_20 rfl (lv_at hl 5 rfl) ?_
  refine lv_iload_n hx hb dL_areBitsSo_21 rfl (lv_at hl 6 rfl) ?_
  refine lv_iload hx hb dL_areBitsSo_22 (lv_at hl 0 rfl) ?_
  refine z_callG (val := nI (bN a9 c9 g9 5)) (va_runV (As := [.int (nI a9), .int (nI c9), .int (nI g9), .int 5]) (rest := [.int (nI (((((0 + (bN a9 c9 g9 0)) + (bN a9 c9 g9 1)) + (bN a9 c9 g9 2)) + (bN a9 c9 g9 3)) + (bN a9 c9 g9 4)))]) ⟨hx, hb, hml, hown, hts⟩ (pC_bit' l G H.size ad h hx9 hy9 ht9 (i9 := 5) (Nat.le_of_ble_eq_true rfl)) (cwV 4 hts gL_areBitsSo_X5_bit rfl rfl rfl (by decide +kernel) ⟨(Nat.le_of_ble_eq_true rfl), (Nat.le_of_ble_eq_true rfl)⟩) (zV (ci := 5) (q0 := 0) hK hP hD rfl (wCl_0 G ad D)) rfl rfl hl.1 rfl (lv_room (Nat.le_of_ble_eq_true rfl)) dL_areBitsSo_24 ⟨(Nat.le_of_ble_eq_true rfl), (Nat.le_of_ble_eq_true rfl)⟩) hP hD hS hA (fun H locs hP hD hS => ?_)
  refine lv_iadd hx hb dL_areBitsSo_27 ?_
  refine z_top (show nI (((((0 + (bN a9 c9 g9 0)) + (bN a9 c9 g9 1)) + (bN a9 c9 g9 2)) + (bN a9 c9 g9 3)) + (bN a9 c9 g9 4)) + nI (bN a9 c9 g9 5) = nI ((((((0 + (bN a9 c9 g9 0)) + (bN a9 c9 g9 1)) + (bN a9 c9 g9 2)) + (bN a9 c9 g9 3)) + (bN a9 c9 g9 4)) + (bN a9 c9 g9 5)) from nI_add (((((0 + (bN a9 c9 g9 0)) + (bN a9 c9 g9 1)) + (bN a9 c9 g9 2)) + (bN a9 c9 g9 3)) + (bN a9 c9 g9 4)) (bN a9 c9 g9 5)) ?_
  refine lv_istore (lv' := [(4, .int (nI ((((((0 + (bN a9 c9 g9 0)) + (bN a9 c9 g9 1)) + (bN a9 c9 g9 2)) + (bN a9 c9 g9 3)) + (bN a9 c9 g9 4)) + (bN a9 c9 g9 5)))), (6, .int 5), (5, .int (nI ((2 * ((2 * ((2 * ((2 * ((2 * 0) + (bN a9 c9 g9 0))) + (bN a9 c9 g9 1))) + (bN a9 c9 g9 2))) + (bN a9 c9 g9 3))) + (bN a9 c9 g9 4)))), (0, .ref ad.2.2.1), (1, .int (nI a9)), (2, .int (nI c9)), (3, .int (nI g9))]) hx hb dL_areBitsSo_28 hl (by decide) rfl (fun ls hl => ?_)
  refine lv_iconst (v := 2) hx hb dL_areBitsSo_30 (by decide) ?_
  refine lv_iload hx hb dL_areBitsSo_31 (lv_at hl 2 rfl) ?_
  refine lv_imul hx hb dL_areBitsSo_33 ?_
  refine z_top (show (2 : Int32) * nI ((2 * ((2 * ((2 * ((2 * ((2 * 0) + (bN a9 c9 g9 0))) + (bN a9 c9 g9 1))) + (bN a9 c9 g9 2))) + (bN a9 c9 g9 3))) + (bN a9 c9 g9 4)) = nI (2 * ((2 * ((2 * ((2 * ((2 * ((2 * 0) + (bN a9 c9 g9 0))) + (bN a9 c9 g9 1))) + (bN a9 c9 g9 2))) + (bN a9 c9 g9 3))) + (bN a9 c9 g9 4))) from pk_mul 2 ((2 * ((2 * ((2 * ((2 * ((2 * 0) + (bN a9 c9 g9 0))) + (bN a9 c9 g9 1))) + (bN a9 c9 g9 2))) + (bN a9 c9 g9 3))) + (bN a9 c9 g9 4))) ?_
  refine lv_aload_n hx hb dL_areBitsSo_34 rfl (lv_at hl 3 rfl) ?_
  refine lv_iload_n hx hb dL_areBitsSo_35 rfl (lv_at hl 4 rfl) ?_
  refine lv_iload_n hx hb dL_areBitsSo_36 rfl (lv_at hl 5 rfl) ?_
  refine lv_iload_n hx hb dL_areBitsSo_37 rfl (lv_at hl 6 rfl) ?_
  refine lv_iload hx hb dL_areBitsSo_38 (lv_at hl 1 rfl) ?_
  refine z_callG (val := nI (bN a9 c9 g9 5)) (va_runV (As := [.int (nI a9), .int (nI c9), .int (nI g9), .int 5]) (rest := [.int (nI (2 * ((2 * ((2 * ((2 * ((2 * ((2 * 0) + (bN a9 c9 g9 0))) + (bN a9 c9 g9 1))) + (bN a9 c9 g9 2))) + (bN a9 c9 g9 3))) + (bN a9 c9 g9 4))))]) ⟨hx, hb, hml, hown, hts⟩ (pC_bit' l G H.size ad h hx9 hy9 ht9 (i9 := 5) (Nat.le_of_ble_eq_true rfl)) (cwV 4 hts gL_areBitsSo_X5_bit rfl rfl rfl (by decide +kernel) ⟨(Nat.le_of_ble_eq_true rfl), (Nat.le_of_ble_eq_true rfl)⟩) (zV (ci := 5) (q0 := 0) hK hP hD rfl (wCl_0 G ad D)) rfl rfl hl.1 rfl (lv_room (Nat.le_of_ble_eq_true rfl)) dL_areBitsSo_40 ⟨(Nat.le_of_ble_eq_true rfl), (Nat.le_of_ble_eq_true rfl)⟩) hP hD hS hA (fun H locs hP hD hS => ?_)
  refine lv_iadd hx hb dL_areBitsSo_43 ?_
  refine z_top (show nI (2 * ((2 * ((2 * ((2 * ((2 * ((2 * 0) + (bN a9 c9 g9 0))) + (bN a9 c9 g9 1))) + (bN a9 c9 g9 2))) + (bN a9 c9 g9 3))) + (bN a9 c9 g9 4))) + nI (bN a9 c9 g9 5) = nI ((2 * ((2 * ((2 * ((2 * ((2 * ((2 * 0) + (bN a9 c9 g9 0))) + (bN a9 c9 g9 1))) + (bN a9 c9 g9 2))) + (bN a9 c9 g9 3))) + (bN a9 c9 g9 4))) + (bN a9 c9 g9 5)) from nI_add (2 * ((2 * ((2 * ((2 * ((2 * ((2 * 0) + (bN a9 c9 g9 0))) + (bN a9 c9 g9 1))) + (bN a9 c9 g9 2))) + (bN a9 c9 g9 3))) + (bN a9 c9 g9 4))) (bN a9 c9 g9 5)) ?_
  refine lv_istore (lv' := [(5, .int (nI ((2 * ((2 * ((2 * ((2 * ((2 * ((2 * 0) + (bN a9 c9 g9 0))) + (bN a9 c9 g9 1))) + (bN a9 c9 g9 2))) + (bN a9 c9 g9 3))) + (bN a9 c9 g9 4))) + (bN a9 c9 g9 5)))), (4, .int (nI ((((((0 + (bN a9 c9 g9 0)) + (bN a9 c9 g9 1)) + (bN a9 c9 g9 2)) + (bN a9 c9 g9 3)) + (bN a9 c9 g9 4)) + (bN a9 c9 g9 5)))), (6, .int 5), (0, .ref ad.2.2.1), (1, .int (nI a9)), (2, .int (nI c9)), (3, .int (nI g9))]) hx hb dL_areBitsSo_44 hl (by decide) rfl (fun ls hl => ?_)
  refine lv_iinc (v := 6) (lv' := [(6, .int 6), (5, .int (nI ((2 * ((2 * ((2 * ((2 * ((2 * ((2 * 0) + (bN a9 c9 g9 0))) + (bN a9 c9 g9 1))) + (bN a9 c9 g9 2))) + (bN a9 c9 g9 3))) + (bN a9 c9 g9 4))) + (bN a9 c9 g9 5)))), (4, .int (nI ((((((0 + (bN a9 c9 g9 0)) + (bN a9 c9 g9 1)) + (bN a9 c9 g9 2)) + (bN a9 c9 g9 3)) + (bN a9 c9 g9 4)) + (bN a9 c9 g9 5)))), (0, .ref ad.2.2.1), (1, .int (nI a9)), (2, .int (nI c9)), (3, .int (nI g9))]) hx hb dL_areBitsSo_46 hl (k := 2) rfl (by decide) (by decide) rfl (fun ls hl => ?_)
  refine lv_goto (tgt := 9) hx hb dL_areBitsSo_49 (by decide) ?_
  refine lv_iload hx hb dL_areBitsSo_9 (lv_at hl 0 rfl) ?_
  refine lv_bipush (v := 9) hx hb dL_areBitsSo_11 (by decide) ?_
  refine lv_icmp_ge (tgt := 52) hx hb dL_areBitsSo_13 (by decide) (fun c_19 => absurd ((t_le (show (9 : Int32).toInt = 9 by decide) (show (6 : Int32).toInt = 6 by decide)).mp c_19) (by omega)) (fun c_19 => ?_)
  refine lv_iload hx hb dL_areBitsSo_16 (lv_at hl 2 rfl) ?_
  refine lv_aload_n hx hb dL_areBitsSo_18 rfl (lv_at hl 3 rfl) ?_
  refine lv_iload_n hx hb dL_areBitsSo_19 rfl (lv_at hl 4 rfl) ?_
  refine lv_iload_n hx hb dL_areBitsSo_20 rfl (lv_at hl 5 rfl) ?_
  refine lv_iload_n hx hb dL_areBitsSo_21 rfl (lv_at hl 6 rfl) ?_
  refine lv_iload hx hb dL_areBitsSo_22 (lv_at hl 0 rfl) ?_
  refine z_callG (val := nI (bN a9 c9 g9 6)) (va_runV (As := [.int (nI a9), .int (nI c9), .int (nI g9), .int 6]) (rest := [.int (nI ((((((0 + (bN a9 c9 g9 0)) + (bN a9 c9 g9 1)) + (bN a9 c9 g9 2)) + (bN a9 c9 g9 3)) + (bN a9 c9 g9 4)) + (bN a9 c9 g9 5)))]) ⟨hx, hb, hml, hown, hts⟩ (pC_bit' l G H.size ad h hx9 hy9 ht9 (i9 := 6) (Nat.le_of_ble_eq_true rfl)) (cwV 4 hts gL_areBitsSo_X5_bit rfl rfl rfl (by decide +kernel) ⟨(Nat.le_of_ble_eq_true rfl), (Nat.le_of_ble_eq_true rfl)⟩) (zV (ci := 5) (q0 := 0) hK hP hD rfl (wCl_0 G ad D)) rfl rfl hl.1 rfl (lv_room (Nat.le_of_ble_eq_true rfl)) dL_areBitsSo_24 ⟨(Nat.le_of_ble_eq_true rfl), (Nat.le_of_ble_eq_true rfl)⟩) hP hD hS hA (fun H locs hP hD hS => ?_)
  refine lv_iadd hx hb dL_areBitsSo_27 ?_
  refine z_top (show nI ((((((0 + (bN a9 c9 g9 0)) + (bN a9 c9 g9 1)) + (bN a9 c9 g9 2)) + (bN a9 c9 g9 3)) + (bN a9 c9 g9 4)) + (bN a9 c9 g9 5)) + nI (bN a9 c9 g9 6) = nI (((((((0 + (bN a9 c9 g9 0)) + (bN a9 c9 g9 1)) + (bN a9 c9 g9 2)) + (bN a9 c9 g9 3)) + (bN a9 c9 g9 4)) + (bN a9 c9 g9 5)) + (bN a9 c9 g9 6)) from nI_add ((((((0 + (bN a9 c9 g9 0)) + (bN a9 c9 g9 1)) + (bN a9 c9 g9 2)) + (bN a9 c9 g9 3)) + (bN a9 c9 g9 4)) + (bN a9 c9 g9 5)) (bN a9 c9 g9 6)) ?_
  refine lv_istore (lv' := [(4, .int (nI (((((((0 + (bN a9 c9 g9 0)) + (bN a9 c9 g9 1)) + (bN a9 c9 g9 2)) + (bN a9 c9 g9 3)) + (bN a9 c9 g9 4)) + (bN a9 c9 g9 5)) + (bN a9 c9 g9 6)))), (6, .int 6), (5, .int (nI ((2 * ((2 * ((2 * ((2 * ((2 * ((2 * 0) + (bN a9 c9 g9 0))) + (bN a9 c9 g9 1))) + (bN a9 c9 g9 2))) + (bN a9 c9 g9 3))) + (bN a9 c9 g9 4))) + (bN a9 c9 g9 5)))), (0, .ref ad.2.2.1), (1, .int (nI a9)), (2, .int (nI c9)), (3, .int (nI g9))]) hx hb dL_areBitsSo_28 hl (by decide) rfl (fun ls hl => ?_)
  refine lv_iconst (v := 2) hx hb dL_areBitsSo_30 (by decide) ?_
  refine lv_iload hx hb dL_areBitsSo_31 (lv_at hl 2 rfl) ?_
  refine lv_imul hx hb dL_areBitsSo_33 ?_
  refine z_top (show (2 : Int32) * nI ((2 * ((2 * ((2 * ((2 * ((2 * ((2 * 0) + (bN a9 c9 g9 0))) + (bN a9 c9 g9 1))) + (bN a9 c9 g9 2))) + (bN a9 c9 g9 3))) + (bN a9 c9 g9 4))) + (bN a9 c9 g9 5)) = nI (2 * ((2 * ((2 * ((2 * ((2 * ((2 * ((2 * 0) + (bN a9 c9 g9 0))) + (bN a9 c9 g9 1))) + (bN a9 c9 g9 2))) + (bN a9 c9 g9 3))) + (bN a9 c9 g9 4))) + (bN a9 c9 g9 5))) from pk_mul 2 ((2 * ((2 * ((2 * ((2 * ((2 * ((2 * 0) + (bN a9 c9 g9 0))) + (bN a9 c9 g9 1))) + (bN a9 c9 g9 2))) + (bN a9 c9 g9 3))) + (bN a9 c9 g9 4))) + (bN a9 c9 g9 5))) ?_
  refine lv_aload_n hx hb dL_areBitsSo_34 rfl (lv_at hl 3 rfl) ?_
  refine lv_iload_n hx hb dL_areBitsSo_35 rfl (lv_at hl 4 rfl) ?_
  refine lv_iload_n hx hb dL_areBitsSo_36 rfl (lv_at hl 5 rfl) ?_
  refine lv_iload_n hx hb dL_areBitsSo_37 rfl (lv_at hl 6 rfl) ?_
  refine lv_iload hx hb dL_areBitsSo_38 (lv_at hl 1 rfl) ?_
  refine z_callG (val := nI (bN a9 c9 g9 6)) (va_runV (As := [.int (nI a9), .int (nI c9), .int (nI g9), .int 6]) (rest := [.int (nI (2 * ((2 * ((2 * ((2 * ((2 * ((2 * ((2 * 0) + (bN a9 c9 g9 0))) + (bN a9 c9 g9 1))) + (bN a9 c9 g9 2))) + (bN a9 c9 g9 3))) + (bN a9 c9 g9 4))) + (bN a9 c9 g9 5))))]) ⟨hx, hb, hml, hown, hts⟩ (pC_bit' l G H.size ad h hx9 hy9 ht9 (i9 := 6) (Nat.le_of_ble_eq_true rfl)) (cwV 4 hts gL_areBitsSo_X5_bit rfl rfl rfl (by decide +kernel) ⟨(Nat.le_of_ble_eq_true rfl), (Nat.le_of_ble_eq_true rfl)⟩) (zV (ci := 5) (q0 := 0) hK hP hD rfl (wCl_0 G ad D)) rfl rfl hl.1 rfl (lv_room (Nat.le_of_ble_eq_true rfl)) dL_areBitsSo_40 ⟨(Nat.le_of_ble_eq_true rfl), (Nat.le_of_ble_eq_true rfl)⟩) hP hD hS hA (fun H locs hP hD hS => ?_)
  refine lv_iadd hx hb dL_areBitsSo_43 ?_
  refine z_top (show nI (2 * ((2 * ((2 * ((2 * ((2 * ((2 * ((2 * 0) + (bN a9 c9 g9 0))) + (bN a9 c9 g9 1))) + (bN a9 c9 g9 2))) + (bN a9 c9 g9 3))) + (bN a9 c9 g9 4))) + (bN a9 c9 g9 5))) + nI (bN a9 c9 g9 6) = nI ((2 * ((2 * ((2 * ((2 * ((2 * ((2 * ((2 * 0) + (bN a9 c9 g9 0))) + (bN a9 c9 g9 1))) + (bN a9 c9 g9 2))) + (bN a9 c9 g9 3))) + (bN a9 c9 g9 4))) + (bN a9 c9 g9 5))) + (bN a9 c9 g9 6)) from nI_add (2 * ((2 * ((2 * ((2 * ((2 * ((2 * ((2 * 0) + (bN a9 c9 g9 0))) + (bN a9 c9 g9 1))) + (bN a9 c9 g9 2))) + (bN a9 c9 g9 3))) + (bN a9 c9 g9 4))) + (bN a9 c9 g9 5))) (bN a9 c9 g9 6)) ?_
  refine lv_istore (lv' := [(5, .int (nI ((2 * ((2 * ((2 * ((2 * ((2 * ((2 * ((2 * 0) + (bN a9 c9 g9 0))) + (bN a9 c9 g9 1))) + (bN a9 c9 g9 2))) + (bN a9 c9 g9 3))) + (bN a9 c9 g9 4))) + (bN a9 c9 g9 5))) + (bN a9 c9 g9 6)))), (4, .int (nI (((((((0 + (bN a9 c9 g9 0)) + (bN a9 c9 g9 1)) + (bN a9 c9 g9 2)) + (bN a9 c9 g9 3)) + (bN a9 c9 g9 4)) + (bN a9 c9 g9 5)) + (bN a9 c9 g9 6)))), (6, .int 6), (0, .ref ad.2.2.1), (1, .int (nI a9)), (2, .int (nI c9)), (3, .int (nI g9))]) hx hb dL_areBitsSo_44 hl (by decide) rfl (fun ls hl => ?_)
  refine lv_iinc (v := 7) (lv' := [(6, .int 7), (5, .int (nI ((2 * ((2 * ((2 * ((2 * ((2 * ((2 * ((2 * 0) + (bN a9 c9 g9 0))) + (bN a9 c9 g9 1))) + (bN a9 c9 g9 2))) + (bN a9 c9 g9 3))) + (bN a9 c9 g9 4))) + (bN a9 c9 g9 5))) + (bN a9 c9 g9 6)))), (4, .int (nI (((((((0 + (bN a9 c9 g9 0)) + (bN a9 c9 g9 1)) + (bN a9 c9 g9 2)) + (bN a9 c9 g9 3)) + (bN a9 c9 g9 4)) + (bN a9 c9 g9 5)) + (bN a9 c9 g9 6)))), (0, .ref ad.2.2.1), (1, .int (nI a9)), (2, .int (nI c9)), (3, .int (nI g9))]) hx hb dL_areBitsSo_46 hl (k := 2) rfl (by decide) (by decide) rfl (fun ls hl => ?_)
  refine lv_goto (tgt := 9) hx hb dL_areBitsSo_49 (by decide) ?_
  refine lv_iload hx hb dL_areBitsSo_9 (lv_at hl 0 rfl) ?_
  refine lv_bipush (v := 9) hx hb dL_areBitsSo_11 (by decide) ?_
  refine lv_icmp_ge (tgt := 52) hx hb dL_areBitsSo_13 (by decide) (fun c_22 => absurd ((t_le (show (9 : Int32).toInt = 9 by decide) (show (7 : Int32).toInt = 7 by decide)).mp c_22) (by omega)) (fun c_22 => ?_)
  refine lv_iload hx hb dL_areBitsSo_16 (lv_at hl 2 rfl) ?_
  refine lv_aload_n hx hb dL_areBitsSo_18 rfl (lv_at hl 3 rfl) ?_
  refine lv_iload_n hx hb dL_areBitsSo_19 rfl (lv_at hl 4 rfl) ?_
  refine lv_iload_n hx hb dL_areBitsSo_20 rfl (lv_at hl 5 rfl) ?_
  refine lv_iload_n hx hb dL_areBitsSo_21 rfl (lv_at hl 6 rfl) ?_
  refine lv_iload hx hb dL_areBitsSo_22 (lv_at hl 0 rfl) ?_
  refine z_callG (val := nI (bN a9 c9 g9 7)) (va_runV (As := [.int (nI a9), .int (nI c9), .int (nI g9), .int 7]) (rest := [.int (nI (((((((0 + (bN a9 c9 g9 0)) + (bN a9 c9 g9 1)) + (bN a9 c9 g9 2)) + (bN a9 c9 g9 3)) + (bN a9 c9 g9 4)) + (bN a9 c9 g9 5)) + (bN a9 c9 g9 6)))]) ⟨hx, hb, hml, hown, hts⟩ (pC_bit' l G H.size ad h hx9 hy9 ht9 (i9 := 7) (Nat.le_of_ble_eq_true rfl)) (cwV 4 hts gL_areBitsSo_X5_bit rfl rfl rfl (by decide +kernel) ⟨(Nat.le_of_ble_eq_true rfl), (Nat.le_of_ble_eq_true rfl)⟩) (zV (ci := 5) (q0 := 0) hK hP hD rfl (wCl_0 G ad D)) rfl rfl hl.1 rfl (lv_room (Nat.le_of_ble_eq_true rfl)) dL_areBitsSo_24 ⟨(Nat.le_of_ble_eq_true rfl), (Nat.le_of_ble_eq_true rfl)⟩) hP hD hS hA (fun H locs hP hD hS => ?_)
  refine lv_iadd hx hb dL_areBitsSo_27 ?_
  refine z_top (show nI (((((((0 + (bN a9 c9 g9 0)) + (bN a9 c9 g9 1)) + (bN a9 c9 g9 2)) + (bN a9 c9 g9 3)) + (bN a9 c9 g9 4)) + (bN a9 c9 g9 5)) + (bN a9 c9 g9 6)) + nI (bN a9 c9 g9 7) = nI ((((((((0 + (bN a9 c9 g9 0)) + (bN a9 c9 g9 1)) + (bN a9 c9 g9 2)) + (bN a9 c9 g9 3)) + (bN a9 c9 g9 4)) + (bN a9 c9 g9 5)) + (bN a9 c9 g9 6)) + (bN a9 c9 g9 7)) from nI_add (((((((0 + (bN a9 c9 g9 0)) + (bN a9 c9 g9 1)) + (bN a9 c9 g9 2)) + (bN a9 c9 g9 3)) + (bN a9 c9 g9 4)) + (bN a9 c9 g9 5)) + (bN a9 c9 g9 6)) (bN a9 c9 g9 7)) ?_
  refine lv_istore (lv' := [(4, .int (nI ((((((((0 + (bN a9 c9 g9 0)) + (bN a9 c9 g9 1)) + (bN a9 c9 g9 2)) + (bN a9 c9 g9 3)) + (bN a9 c9 g9 4)) + (bN a9 c9 g9 5)) + (bN a9 c9 g9 6)) + (bN a9 c9 g9 7)))), (6, .int 7), (5, .int (nI ((2 * ((2 * ((2 * ((2 * ((2 * ((2 * ((2 * 0) + (bN a9 c9 g9 0))) + (bN a9 c9 g9 1))) + (bN a9 c9 g9 2))) + (bN a9 c9 g9 3))) + (bN a9 c9 g9 4))) + (bN a9 c9 g9 5))) + (bN a9 c9 g9 6)))), (0, .ref ad.2.2.1), (1, .int (nI a9)), (2, .int (nI c9)), (3, .int (nI g9))]) hx hb dL_areBitsSo_28 hl (by decide) rfl (fun ls hl => ?_)
  refine lv_iconst (v := 2) hx hb dL_areBitsSo_30 (by decide) ?_
  refine lv_iload hx hb dL_areBitsSo_31 (lv_at hl 2 rfl) ?_
  refine lv_imul hx hb dL_areBitsSo_33 ?_
  refine z_top (show (2 : Int32) * nI ((2 * ((2 * ((2 * ((2 * ((2 * ((2 * ((2 * 0) + (bN a9 c9 g9 0))) + (bN a9 c9 g9 1))) + (bN a9 c9 g9 2))) + (bN a9 c9 g9 3))) + (bN a9 c9 g9 4))) + (bN a9 c9 g9 5))) + (bN a9 c9 g9 6)) = nI (2 * ((2 * ((2 * ((2 * ((2 * ((2 * ((2 * ((2 * 0) + (bN a9 c9 g9 0))) + (bN a9 c9 g9 1))) + (bN a9 c9 g9 2))) + (bN a9 c9 g9 3))) + (bN a9 c9 g9 4))) + (bN a9 c9 g9 5))) + (bN a9 c9 g9 6))) from pk_mul 2 ((2 * ((2 * ((2 * ((2 * ((2 * ((2 * ((2 * 0) + (bN a9 c9 g9 0))) + (bN a9 c9 g9 1))) + (bN a9 c9 g9 2))) + (bN a9 c9 g9 3))) + (bN a9 c9 g9 4))) + (bN a9 c9 g9 5))) + (bN a9 c9 g9 6))) ?_
  refine lv_aload_n hx hb dL_areBitsSo_34 rfl (lv_at hl 3 rfl) ?_
  refine lv_iload_n hx hb dL_areBitsSo_35 rfl (lv_at hl 4 rfl) ?_
  refine lv_iload_n hx hb dL_areBitsSo_36 rfl (lv_at hl 5 rfl) ?_
  refine lv_iload_n hx hb dL_areBitsSo_37 rfl (lv_at hl 6 rfl) ?_
  refine lv_iload hx hb dL_areBitsSo_38 (lv_at hl 1 rfl) ?_
  refine z_callG (val := nI (bN a9 c9 g9 7)) (va_runV (As := [.int (nI a9), .int (nI c9), .int (nI g9), .int 7]) (rest := [.int (nI (2 * ((2 * ((2 * ((2 * ((2 * ((2 * ((2 * ((2 * 0) + (bN a9 c9 g9 0))) + (bN a9 c9 g9 1))) + (bN a9 c9 g9 2))) + (bN a9 c9 g9 3))) + (bN a9 c9 g9 4))) + (bN a9 c9 g9 5))) + (bN a9 c9 g9 6))))]) ⟨hx, hb, hml, hown, hts⟩ (pC_bit' l G H.size ad h hx9 hy9 ht9 (i9 := 7) (Nat.le_of_ble_eq_true rfl)) (cwV 4 hts gL_areBitsSo_X5_bit rfl rfl rfl (by decide +kernel) ⟨(Nat.le_of_ble_eq_true rfl), (Nat.le_of_ble_eq_true rfl)⟩) (zV (ci := 5) (q0 := 0) hK hP hD rfl (wCl_0 G ad D)) rfl rfl hl.1 rfl (lv_room (Nat.le_of_ble_eq_true rfl)) dL_areBitsSo_40 ⟨(Nat.le_of_ble_eq_true rfl), (Nat.le_of_ble_eq_true rfl)⟩) hP hD hS hA (fun H locs hP hD hS => ?_)
  refine lv_iadd hx hb dL_areBitsSo_43 ?_
  refine z_top (show nI (2 * ((2 * ((2 * ((2 * ((2 * ((2 * ((2 * ((2 * 0) + (bN a9 c9 g9 0))) + (bN a9 c9 g9 1))) + (bN a9 c9 g9 2))) + (bN a9 c9 g9 3))) + (bN a9 c9 g9 4))) + (bN a9 c9 g9 5))) + (bN a9 c9 g9 6))) + nI (bN a9 c9 g9 7) = nI ((2 * ((2 * ((2 * ((2 * ((2 * ((2 * ((2 * ((2 * 0) + (bN a9 c9 g9 0))) + (bN a9 c9 g9 1))) + (bN a9 c9 g9 2))) + (bN a9 c9 g9 3))) + (bN a9 c9 g9 4))) + (bN a9 c9 g9 5))) + (bN a9 c9 g9 6))) + (bN a9 c9 g9 7)) from nI_add (2 * ((2 * ((2 * ((2 * ((2 * ((2 * ((2 * ((2 * 0) + (bN a9 c9 g9 0))) + (bN a9 c9 g9 1))) + (bN a9 c9 g9 2))) + (bN a9 c9 g9 3))) + (bN a9 c9 g9 4))) + (bN a9 c9 g9 5))) + (bN a9 c9 g9 6))) (bN a9 c9 g9 7)) ?_
  refine lv_istore (lv' := [(5, .int (nI ((2 * ((2 * ((2 * ((2 * ((2 * ((2 * ((2 * ((2 * 0) + (bN a9 c9 g9 0))) + (bN a9 c9 g9 1))) + (bN a9 c9 g9 2))) + (bN a9 c9 g9 3))) + (bN a9 c9 g9 4))) + (bN a9 c9 g9 5))) + (bN a9 c9 g9 6))) + (bN a9 c9 g9 7)))), (4, .int (nI ((((((((0 + (bN a9 c9 g9 0)) + (bN a9 c9 g9 1)) + (bN a9 c9 g9 2)) + (bN a9 c9 g9 3)) + (bN a9 c9 g9 4)) + (bN a9 c9 g9 5)) + (bN a9 c9 g9 6)) + (bN a9 c9 g9 7)))), (6, .int 7), (0, .ref ad.2.2.1), (1, .int (nI a9)), (2, .int (nI c9)), (3, .int (nI g9))]) hx hb dL_areBitsSo_44 hl (by decide) rfl (fun ls hl => ?_)
  refine lv_iinc (v := 8) (lv' := [(6, .int 8), (5, .int (nI ((2 * ((2 * ((2 * ((2 * ((2 * ((2 * ((2 * ((2 * 0) + (bN a9 c9 g9 0))) + (bN a9 c9 g9 1))) + (bN a9 c9 g9 2))) + (bN a9 c9 g9 3))) + (bN a9 c9 g9 4))) + (bN a9 c9 g9 5))) + (bN a9 c9 g9 6))) + (bN a9 c9 g9 7)))), (4, .int (nI ((((((((0 + (bN a9 c9 g9 0)) + (bN a9 c9 g9 1)) + (bN a9 c9 g9 2)) + (bN a9 c9 g9 3)) + (bN a9 c9 g9 4)) + (bN a9 c9 g9 5)) + (bN a9 c9 g9 6)) + (bN a9 c9 g9 7)))), (0, .ref ad.2.2.1), (1, .int (nI a9)), (2, .int (nI c9)), (3, .int (nI g9))]) hx hb dL_areBitsSo_46 hl (k := 2) rfl (by decide) (by decide) rfl (fun ls hl => ?_)
  refine lv_goto (tgt := 9) hx hb dL_areBitsSo_49 (by decide) ?_
  refine lv_iload hx hb dL_areBitsSo_9 (lv_at hl 0 rfl) ?_
  refine lv_bipush (v := 9) hx hb dL_areBitsSo_11 (by decide) ?_
  refine lv_icmp_ge (tgt := 52) hx hb dL_areBitsSo_13 (by decide) (fun c_25 => absurd ((t_le (show (9 : Int32).toInt = 9 by decide) (show (8 : Int32).toInt = 8 by decide)).mp c_25) (by omega)) (fun c_25 => ?_)
  refine lv_iload hx hb dL_areBitsSo_16 (lv_at hl 2 rfl) ?_
  refine lv_aload_n hx hb dL_areBitsSo_18 rfl (lv_at hl 3 rfl) ?_
  refine lv_iload_n hx hb dL_areBitsSo_19 rfl (lv_at hl 4 rfl) ?_
  refine lv_iload_n hx hb dL_areBitsSo_20 rfl (lv_at hl 5 rfl) ?_
  refine lv_iload_n hx hb dL_areBitsSo_21 rfl (lv_at hl 6 rfl) ?_
  refine lv_iload hx hb dL_areBitsSo_22 (lv_at hl 0 rfl) ?_
  refine z_callG (val := nI (bN a9 c9 g9 8)) (va_runV (As := [.int (nI a9), .int (nI c9), .int (nI g9), .int 8]) (rest := [.int (nI ((((((((0 + (bN a9 c9 g9 0)) + (bN a9 c9 g9 1)) + (bN a9 c9 g9 2)) + (bN a9 c9 g9 3)) + (bN a9 c9 g9 4)) + (bN a9 c9 g9 5)) + (bN a9 c9 g9 6)) + (bN a9 c9 g9 7)))]) ⟨hx, hb, hml, hown, hts⟩ (pC_bit' l G H.size ad h hx9 hy9 ht9 (i9 := 8) (Nat.le_of_ble_eq_true rfl)) (cwV 4 hts gL_areBitsSo_X5_bit rfl rfl rfl (by decide +kernel) ⟨(Nat.le_of_ble_eq_true rfl), (Nat.le_of_ble_eq_true rfl)⟩) (zV (ci := 5) (q0 := 0) hK hP hD rfl (wCl_0 G ad D)) rfl rfl hl.1 rfl (lv_room (Nat.le_of_ble_eq_true rfl)) dL_areBitsSo_24 ⟨(Nat.le_of_ble_eq_true rfl), (Nat.le_of_ble_eq_true rfl)⟩) hP hD hS hA (fun H locs hP hD hS => ?_)
  refine lv_iadd hx hb dL_areBitsSo_27 ?_
  refine z_top (show nI ((((((((0 + (bN a9 c9 g9 0)) + (bN a9 c9 g9 1)) + (bN a9 c9 g9 2)) + (bN a9 c9 g9 3)) + (bN a9 c9 g9 4)) + (bN a9 c9 g9 5)) + (bN a9 c9 g9 6)) + (bN a9 c9 g9 7)) + nI (bN a9 c9 g9 8) = nI (((((((((0 + (bN a9 c9 g9 0)) + (bN a9 c9 g9 1)) + (bN a9 c9 g9 2)) + (bN a9 c9 g9 3)) + (bN a9 c9 g9 4)) + (bN a9 c9 g9 5)) + (bN a9 c9 g9 6)) + (bN a9 c9 g9 7)) + (bN a9 c9 g9 8)) from nI_add ((((((((0 + (bN a9 c9 g9 0)) + (bN a9 c9 g9 1)) + (bN a9 c9 g9 2)) + (bN a9 c9 g9 3)) + (bN a9 c9 g9 4)) + (bN a9 c9 g9 5)) + (bN a9 c9 g9 6)) + (bN a9 c9 g9 7)) (bN a9 c9 g9 8)) ?_
  refine lv_istore (lv' := [(4, .int (nI (((((((((0 + (bN a9 c9 g9 0)) + (bN a9 c9 g9 1)) + (bN a9 c9 g9 2)) + (bN a9 c9 g9 3)) + (bN a9 c9 g9 4)) + (bN a9 c9 g9 5)) + (bN a9 c9 g9 6)) + (bN a9 c9 g9 7)) + (bN a9 c9 g9 8)))), (6, .int 8), (5, .int (nI ((2 * ((2 * ((2 * ((2 * ((2 * ((2 * ((2 * ((2 * 0) + (bN a9 c9 g9 0))) + (bN a9 c9 g9 1))) + (bN a9 c9 g9 2))) + (bN a9 c9 g9 3))) + (bN a9 c9 g9 4))) + (bN a9 c9 g9 5))) + (bN a9 c9 g9 6))) + (bN a9 c9 g9 7)))), (0, .ref ad.2.2.1), (1, .int (nI a9)), (2, .int (nI c9)), (3, .int (nI g9))]) hx hb dL_areBitsSo_28 hl (by decide) rfl (fun ls hl => ?_)
  refine lv_iconst (v := 2) hx hb dL_areBitsSo_30 (by decide) ?_
  refine lv_iload hx hb dL_areBitsSo_31 (lv_at hl 2 rfl) ?_
  refine lv_imul hx hb dL_areBitsSo_33 ?_
  refine z_top (show (2 : Int32) * nI ((2 * ((2 * ((2 * ((2 * ((2 * ((2 * ((2 * ((2 * 0) + (bN a9 c9 g9 0))) + (bN a9 c9 g9 1))) + (bN a9 c9 g9 2))) + (bN a9 c9 g9 3))) + (bN a9 c9 g9 4))) + (bN a9 c9 g9 5))) + (bN a9 c9 g9 6))) + (bN a9 c9 g9 7)) = nI (2 * ((2 * ((2 * ((2 * ((2 * ((2 * ((2 * ((2 * ((2 * 0) + (bN a9 c9 g9 0))) + (bN a9 c9 g9 1))) + (bN a9 c9 g9 2))) + (bN a9 c9 g9 3))) + (bN a9 c9 g9 4))) + (bN a9 c9 g9 5))) + (bN a9 c9 g9 6))) + (bN a9 c9 g9 7))) from pk_mul 2 ((2 * ((2 * ((2 * ((2 * ((2 * ((2 * ((2 * ((2 * 0) + (bN a9 c9 g9 0))) + (bN a9 c9 g9 1))) + (bN a9 c9 g9 2))) + (bN a9 c9 g9 3))) + (bN a9 c9 g9 4))) + (bN a9 c9 g9 5))) + (bN a9 c9 g9 6))) + (bN a9 c9 g9 7))) ?_
  refine lv_aload_n hx hb dL_areBitsSo_34 rfl (lv_at hl 3 rfl) ?_
  refine lv_iload_n hx hb dL_areBitsSo_35 rfl (lv_at hl 4 rfl) ?_
  refine lv_iload_n hx hb dL_areBitsSo_36 rfl (lv_at hl 5 rfl) ?_
  refine lv_iload_n hx hb dL_areBitsSo_37 rfl (lv_at hl 6 rfl) ?_
  refine lv_iload hx hb dL_areBitsSo_38 (lv_at hl 1 rfl) ?_
  refine z_callG (val := nI (bN a9 c9 g9 8)) (va_runV (As := [.int (nI a9), .int (nI c9), .int (nI g9), .int 8]) (rest := [.int (nI (2 * ((2 * ((2 * ((2 * ((2 * ((2 * ((2 * ((2 * ((2 * 0) + (bN a9 c9 g9 0))) + (bN a9 c9 g9 1))) + (bN a9 c9 g9 2))) + (bN a9 c9 g9 3))) + (bN a9 c9 g9 4))) + (bN a9 c9 g9 5))) + (bN a9 c9 g9 6))) + (bN a9 c9 g9 7))))]) ⟨hx, hb, hml, hown, hts⟩ (pC_bit' l G H.size ad h hx9 hy9 ht9 (i9 := 8) (Nat.le_of_ble_eq_true rfl)) (cwV 4 hts gL_areBitsSo_X5_bit rfl rfl rfl (by decide +kernel) ⟨(Nat.le_of_ble_eq_true rfl), (Nat.le_of_ble_eq_true rfl)⟩) (zV (ci := 5) (q0 := 0) hK hP hD rfl (wCl_0 G ad D)) rfl rfl hl.1 rfl (lv_room (Nat.le_of_ble_eq_true rfl)) dL_areBitsSo_40 ⟨(Nat.le_of_ble_eq_true rfl), (Nat.le_of_ble_eq_true rfl)⟩) hP hD hS hA (fun H locs hP hD hS => ?_)
  refine lv_iadd hx hb dL_areBitsSo_43 ?_
  refine z_top (show nI (2 * ((2 * ((2 * ((2 * ((2 * ((2 * ((2 * ((2 * ((2 * 0) + (bN a9 c9 g9 0))) + (bN a9 c9 g9 1))) + (bN a9 c9 g9 2))) + (bN a9 c9 g9 3))) + (bN a9 c9 g9 4))) + (bN a9 c9 g9 5))) + (bN a9 c9 g9 6))) + (bN a9 c9 g9 7))) + nI (bN a9 c9 g9 8) = nI ((2 * ((2 * ((2 * ((2 * ((2 * ((2 * ((2 * ((2 * ((2 * 0) + (bN a9 c9 g9 0))) + (bN a9 c9 g9 1))) + (bN a9 c9 g9 2))) + (bN a9 c9 g9 3))) + (bN a9 c9 g9 4))) + (bN a9 c9 g9 5))) + (bN a9 c9 g9 6))) + (bN a9 c9 g9 7))) + (bN a9 c9 g9 8)) from nI_add (2 * ((2 * ((2 * ((2 * ((2 * ((2 * ((2 * ((2 * ((2 * 0) + (bN a9 c9 g9 0))) + (bN a9 c9 g9 1))) + (bN a9 c9 g9 2))) + (bN a9 c9 g9 3))) + (bN a9 c9 g9 4))) + (bN a9 c9 g9 5))) + (bN a9 c9 g9 6))) + (bN a9 c9 g9 7))) (bN a9 c9 g9 8)) ?_
  refine lv_istore (lv' := [(5, .int (nI ((2 * ((2 * ((2 * ((2 * ((2 * ((2 * ((2 * ((2 * ((2 * 0) + (bN a9 c9 g9 0))) + (bN a9 c9 g9 1))) + (bN a9 c9 g9 2))) + (bN a9 c9 g9 3))) + (bN a9 c9 g9 4))) + (bN a9 c9 g9 5))) + (bN a9 c9 g9 6))) + (bN a9 c9 g9 7))) + (bN a9 c9 g9 8)))), (4, .int (nI (((((((((0 + (bN a9 c9 g9 0)) + (bN a9 c9 g9 1)) + (bN a9 c9 g9 2)) + (bN a9 c9 g9 3)) + (bN a9 c9 g9 4)) + (bN a9 c9 g9 5)) + (bN a9 c9 g9 6)) + (bN a9 c9 g9 7)) + (bN a9 c9 g9 8)))), (6, .int 8), (0, .ref ad.2.2.1), (1, .int (nI a9)), (2, .int (nI c9)), (3, .int (nI g9))]) hx hb dL_areBitsSo_44 hl (by decide) rfl (fun ls hl => ?_)
  refine lv_iinc (v := 9) (lv' := [(6, .int 9), (5, .int (nI ((2 * ((2 * ((2 * ((2 * ((2 * ((2 * ((2 * ((2 * ((2 * 0) + (bN a9 c9 g9 0))) + (bN a9 c9 g9 1))) + (bN a9 c9 g9 2))) + (bN a9 c9 g9 3))) + (bN a9 c9 g9 4))) + (bN a9 c9 g9 5))) + (bN a9 c9 g9 6))) + (bN a9 c9 g9 7))) + (bN a9 c9 g9 8)))), (4, .int (nI (((((((((0 + (bN a9 c9 g9 0)) + (bN a9 c9 g9 1)) + (bN a9 c9 g9 2)) + (bN a9 c9 g9 3)) + (bN a9 c9 g9 4)) + (bN a9 c9 g9 5)) + (bN a9 c9 g9 6)) + (bN a9 c9 g9 7)) + (bN a9 c9 g9 8)))), (0, .ref ad.2.2.1), (1, .int (nI a9)), (2, .int (nI c9)), (3, .int (nI g9))]) hx hb dL_areBitsSo_46 hl (k := 2) rfl (by decide) (by decide) rfl (fun ls hl => ?_)
  refine lv_goto (tgt := 9) hx hb dL_areBitsSo_49 (by decide) ?_
  refine lv_iload hx hb dL_areBitsSo_9 (lv_at hl 0 rfl) ?_
  refine lv_bipush (v := 9) hx hb dL_areBitsSo_11 (by decide) ?_
  refine lv_icmp_ge (tgt := 52) hx hb dL_areBitsSo_13 (by decide) (fun c_28 => ?_) (fun c_28 => absurd ((t_le (show (9 : Int32).toInt = 9 by decide) (show (9 : Int32).toInt = 9 by decide)).mpr (by omega)) c_28)
  refine lv_iload hx hb dL_areBitsSo_52 (lv_at hl 2 rfl) ?_
  refine lv_iconst (v := 2) hx hb dL_areBitsSo_54 (by decide) ?_
  refine lv_irem hx hb dL_areBitsSo_55 (by decide) ?_
  refine z_top (show nI (((((((((0 + (bN a9 c9 g9 0)) + (bN a9 c9 g9 1)) + (bN a9 c9 g9 2)) + (bN a9 c9 g9 3)) + (bN a9 c9 g9 4)) + (bN a9 c9 g9 5)) + (bN a9 c9 g9 6)) + (bN a9 c9 g9 7)) + (bN a9 c9 g9 8)) - nI (((((((((0 + (bN a9 c9 g9 0)) + (bN a9 c9 g9 1)) + (bN a9 c9 g9 2)) + (bN a9 c9 g9 3)) + (bN a9 c9 g9 4)) + (bN a9 c9 g9 5)) + (bN a9 c9 g9 6)) + (bN a9 c9 g9 7)) + (bN a9 c9 g9 8)) / (2 : Int32) * (2 : Int32) = nI ((((((((((0 + (bN a9 c9 g9 0)) + (bN a9 c9 g9 1)) + (bN a9 c9 g9 2)) + (bN a9 c9 g9 3)) + (bN a9 c9 g9 4)) + (bN a9 c9 g9 5)) + (bN a9 c9 g9 6)) + (bN a9 c9 g9 7)) + (bN a9 c9 g9 8)) % 2) from pk_rem (a := (((((((((0 + (bN a9 c9 g9 0)) + (bN a9 c9 g9 1)) + (bN a9 c9 g9 2)) + (bN a9 c9 g9 3)) + (bN a9 c9 g9 4)) + (bN a9 c9 g9 5)) + (bN a9 c9 g9 6)) + (bN a9 c9 g9 7)) + (bN a9 c9 g9 8))) (d := 2) (by omega) (by omega) (by omega)) ?_
  refine lv_if_ne (tgt := 80) hx hb dL_areBitsSo_56 (by decide) (fun c_29 => absurd ((t_eq (nI_toInt (n := ((((((((((0 + (bN a9 c9 g9 0)) + (bN a9 c9 g9 1)) + (bN a9 c9 g9 2)) + (bN a9 c9 g9 3)) + (bN a9 c9 g9 4)) + (bN a9 c9 g9 5)) + (bN a9 c9 g9 6)) + (bN a9 c9 g9 7)) + (bN a9 c9 g9 8)) % 2)) (by omega)) (show (0 : Int32).toInt = 0 by decide)).mpr (by omega)) c_29) (fun c_29 => ?_)
  refine lv_iload hx hb dL_areBitsSo_59 (lv_at hl 1 rfl) ?_
  refine lv_iconst (v := 2) hx hb dL_areBitsSo_61 (by decide) ?_
  refine lv_idiv hx hb dL_areBitsSo_62 (by decide) ?_
  refine z_top (show nI ((2 * ((2 * ((2 * ((2 * ((2 * ((2 * ((2 * ((2 * ((2 * 0) + (bN a9 c9 g9 0))) + (bN a9 c9 g9 1))) + (bN a9 c9 g9 2))) + (bN a9 c9 g9 3))) + (bN a9 c9 g9 4))) + (bN a9 c9 g9 5))) + (bN a9 c9 g9 6))) + (bN a9 c9 g9 7))) + (bN a9 c9 g9 8)) / (2 : Int32) = nI (((2 * ((2 * ((2 * ((2 * ((2 * ((2 * ((2 * ((2 * ((2 * 0) + (bN a9 c9 g9 0))) + (bN a9 c9 g9 1))) + (bN a9 c9 g9 2))) + (bN a9 c9 g9 3))) + (bN a9 c9 g9 4))) + (bN a9 c9 g9 5))) + (bN a9 c9 g9 6))) + (bN a9 c9 g9 7))) + (bN a9 c9 g9 8)) / 2) from pk_div (a := ((2 * ((2 * ((2 * ((2 * ((2 * ((2 * ((2 * ((2 * ((2 * 0) + (bN a9 c9 g9 0))) + (bN a9 c9 g9 1))) + (bN a9 c9 g9 2))) + (bN a9 c9 g9 3))) + (bN a9 c9 g9 4))) + (bN a9 c9 g9 5))) + (bN a9 c9 g9 6))) + (bN a9 c9 g9 7))) + (bN a9 c9 g9 8))) (d := 2) (by omega) (by omega) (by omega)) ?_
  refine lv_bipush (v := 32) hx hb dL_areBitsSo_63 (by decide) ?_
  refine lv_iload_n hx hb dL_areBitsSo_65 rfl (lv_at hl 4 rfl) ?_
  refine lv_imul hx hb dL_areBitsSo_66 ?_
  refine z_top (show (32 : Int32) * (nI a9) = nI (32 * a9) from pk_mul 32 a9) ?_
  refine lv_iconst (v := 2) hx hb dL_areBitsSo_67 (by decide) ?_
  refine lv_iload_n hx hb dL_areBitsSo_68 rfl (lv_at hl 5 rfl) ?_
  refine lv_imul hx hb dL_areBitsSo_69 ?_
  refine z_top (show (2 : Int32) * (nI c9) = nI (2 * c9) from pk_mul 2 c9) ?_
  refine lv_iadd hx hb dL_areBitsSo_70 ?_
  refine z_top (show nI (32 * a9) + nI (2 * c9) = nI ((32 * a9) + (2 * c9)) from nI_add (32 * a9) (2 * c9)) ?_
  refine lv_iload_n hx hb dL_areBitsSo_71 rfl (lv_at hl 6 rfl) ?_
  refine lv_iadd hx hb dL_areBitsSo_72 ?_
  refine z_top (show nI ((32 * a9) + (2 * c9)) + (nI g9) = nI (((32 * a9) + (2 * c9)) + g9) from nI_add ((32 * a9) + (2 * c9)) g9) ?_
  refine lv_icmp_ne (tgt := 80) hx hb dL_areBitsSo_73 (by decide) (fun c_30 => absurd ((t_eq (nI_toInt (n := (((2 * ((2 * ((2 * ((2 * ((2 * ((2 * ((2 * ((2 * ((2 * 0) + (bN a9 c9 g9 0))) + (bN a9 c9 g9 1))) + (bN a9 c9 g9 2))) + (bN a9 c9 g9 3))) + (bN a9 c9 g9 4))) + (bN a9 c9 g9 5))) + (bN a9 c9 g9 6))) + (bN a9 c9 g9 7))) + (bN a9 c9 g9 8)) / 2)) (by omega)) (nI_toInt (n := (((32 * a9) + (2 * c9)) + g9)) (by omega))).mpr (by omega)) c_30) (fun c_30 => ?_)
  refine lv_iconst (v := 1) hx hb dL_areBitsSo_76 (by decide) ?_
  refine lv_goto (tgt := 81) hx hb dL_areBitsSo_77 (by decide) ?_
  exact z_iret hx hb hr rfl hlocks D hP hD hS (Nat.le_of_ble_eq_true rfl) (Nat.le_of_ble_eq_true rfl) dL_areBitsSo_81 ⟨rfl, rfl⟩
end PL1
