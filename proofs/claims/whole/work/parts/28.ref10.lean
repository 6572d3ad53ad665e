section
theorem zw_X6_digest_f28 : Cond.fieldLink RX6 28 "LightReceiverModel" "thrown" "I" ∈ wsX6_digest := by decide +kernel
theorem zi_X6_digest_X6 : ∀ w ∈ wsX60, w ∈ wsX6_digest := fun _ h => List.mem_cons_of_mem _ (List.mem_append_right _ h)
theorem zw_X6_digest_c140 : Cond.constantLong RX6 140 (8302) ∈ wsX6_digest := by decide +kernel
theorem zw_X6_digest_c142 : Cond.constantLong RX6 142 (31) ∈ wsX6_digest := by decide +kernel
theorem zw_X6_digest_f7 : Cond.fieldLink RX6 7 "LightReceiverModel" "s" "[I" ∈ wsX6_digest := by decide +kernel
set_option maxHeartbeats 1000000 in
set_option maxRecDepth 100000 in
theorem c_X6_digest (l : Launch) (G : zG) (sz : Nat) (d : Nat → Nat) (kn ln tm kp pl : Nat) (th wr : Int32) (s9 a9 l9 f9 : zF) (ad : Nat) (hx9 : ad < 8) (hs2 : s9 2 = nI ad) (hlo9 : 0 ≤ (s9 0 * s9 1 / 20).toInt ∧ (s9 0 * s9 1 / 20).toInt ≤ 1000) (c7 : Nat) (hc7 : c7 < 16) (hcr : 0 ≤ s9 3 → s9 3 = nI c7) (hin : ∀ i, i ≤ 20 → (∀ j, j < i → 0 < tcA c7 ad s9 j) → tinv c7 ad (tcS c7 ad s9 i))  : zMl l yX6_digest wsX6_digest ({ frames := 6, cells := 0, slots := 0, locals := 137 } : Room) [.ref (d 0)] G [((d 0), .inr (6, [.ref (d 1), .ref (d 2), .ref (d 3), .int (nI kn), .ref (d 4), .int (nI ln), .int th, .ref (d 5), .int (nI tm), .ref (d 6), .int (nI kp), .int (nI pl), .int wr])), ((d 1), .inl (G.2.1 0, 80, .inl s9)), ((d 2), .inl (G.2.1 0, 80, .inl a9)), ((d 5), .inl (G.2.1 0, 30, .inl l9)), ((d 6), .inl (G.2.1 0, 30, .inl f9))] (fun (v : Int64) (u : (Int32 × Int32) × (zL × zF) × Nat × zF) => v = dgr (fun j9 => s9 (9 + j9)) (dga (fun j9 => s9 (16 + j9)) (fun j9 => s9 (32 + j9)) (dgv (s9 0) (s9 1) (if rmR s9 then s9 3 else -1) (s9 5) (s9 7) (s9 48) (s9 8) u.1.1 u.1.2 (if rmR s9 then 61 - s9 6 else -1)) 16) 6 ∧ lsP (fun k9 => (geR s9 c7 (LO (frS (wd ad 0 0)) 21 (s9 0) (s9 1) (nI k9))).1) u.1.1 ∧ tcP (tcA c7 ad s9) u.1.2) (fun u => [((d 0), .inr (6, [.ref (d 1), .ref (d 2), .ref (d 3), .int (nI kn), .ref (d 4), .int (nI ln), .int 0, .ref (d 5), .int (nI u.2.2.1), .ref (d 6), .int (nI u.2.1.1.2.2.1), .int (nI pl), .int wr])), ((d 1), .inl (G.2.1 0, 80, .inl s9)), ((d 2), .inl (G.2.1 0, 80, .inl u.2.2.2)), ((d 5), .inl (G.2.1 0, 30, .inl u.2.1.2)), ((d 6), .inl (G.2.1 0, 30, .inl u.2.1.1.2.2.2))]) sz 0 0 := by
  refine zMl_of (cc := cX6_digest) (maxL := 4) (ret := (some .long)) (by decide) rfl (Nat.le_of_ble_eq_true rfl) ?_
  intro p e s m args below meth c A ls hx hb hr hml hts hown hlocks hnm hK hP hD hAe hS hA hl hsz
  have hown : s.vm.findClass RX6 = some m.cls := hown
  have hP : va_P G.1 vwCl [((d 0), .inr (6, [.ref (d 1), .ref (d 2), .ref (d 3), .int (nI kn), .ref (d 4), .int (nI ln), .int th, .ref (d 5), .int (nI tm), .ref (d 6), .int (nI kp), .int (nI pl), .int wr])), ((d 1), .inl (G.2.1 0, 80, .inl s9)), ((d 2), .inl (G.2.1 0, 80, .inl a9)), ((d 5), .inl (G.2.1 0, 30, .inl l9)), ((d 6), .inl (G.2.1 0, 30, .inl f9))] s.heap := hP
  have hD : va_D A [((d 0), .inr (6, [.ref (d 1), .ref (d 2), .ref (d 3), .int (nI kn), .ref (d 4), .int (nI ln), .int th, .ref (d 5), .int (nI tm), .ref (d 6), .int (nI kp), .int (nI pl), .int wr])), ((d 1), .inl (G.2.1 0, 80, .inl s9)), ((d 2), .inl (G.2.1 0, 80, .inl a9)), ((d 5), .inl (G.2.1 0, 30, .inl l9)), ((d 6), .inl (G.2.1 0, 30, .inl f9))] := hD
  have hl : lv_has ls 4 [(0, .ref (d 0))] := hl
  refine lv_aload_n hx hb dX6_digest_0 rfl (lv_at hl 0 rfl) ?_
  refine lv_iconst (v := 0) hx hb dX6_digest_1 (by decide) ?_
  refine va_put (D := G.1) (ci := 6) (v := .int 0) (ty := .int) (C := RX6) (T := TX6) (N := 13) hx hb hts zi_X6_digest_X6 tyX6 tyX6_ok nmX6 hown hK.1 hP hD hS 0 rfl rfl 6 (by decide) (hts _ zw_X6_digest_f28) (fun _ h9 => h9) rfl (by decide +kernel) rfl rfl (Nat.le_of_ble_eq_true rfl) dX6_digest_2 (fun H locs hP hD hS => ?_)
  have hP : va_P G.1 vwCl [((d 0), .inr (6, [.ref (d 1), .ref (d 2), .ref (d 3), .int (nI kn), .ref (d 4), .int (nI ln), .int 0, .ref (d 5), .int (nI tm), .ref (d 6), .int (nI kp), .int (nI pl), .int wr])), ((d 1), .inl (G.2.1 0, 80, .inl s9)), ((d 2), .inl (G.2.1 0, 80, .inl a9)), ((d 5), .inl (G.2.1 0, 30, .inl l9)), ((d 6), .inl (G.2.1 0, 30, .inl f9))] H := hP
  have hD : va_D A [((d 0), .inr (6, [.ref (d 1), .ref (d 2), .ref (d 3), .int (nI kn), .ref (d 4), .int (nI ln), .int 0, .ref (d 5), .int (nI tm), .ref (d 6), .int (nI kp), .int (nI pl), .int wr])), ((d 1), .inl (G.2.1 0, 80, .inl s9)), ((d 2), .inl (G.2.1 0, 80, .inl a9)), ((d 5), .inl (G.2.1 0, 30, .inl l9)), ((d 6), .inl (G.2.1 0, 30, .inl f9))] := hD
  refine lv_ldc2 hx hb hown (v := 8302) (hts _ zw_X6_digest_c140) dX6_digest_5 ?_
  refine lv_lstore_n (lv' := [(1, .long 8302), (0, .ref (d 0))]) hx hb dX6_digest_8 rfl hl (by decide) rfl (fun ls hl => ?_)
  refine lv_ldc2 hx hb hown (v := 31) (hts _ zw_X6_digest_c142) dX6_digest_9 ?_
  refine lv_lload_n hx hb dX6_digest_12 rfl (lv_at hl 0 rfl) ?_
  refine lv_lmul hx hb dX6_digest_13 ?_
  refine lv_aload_n hx hb dX6_digest_14 rfl (lv_at hl 1 rfl) ?_
  refine va_get (D := G.1) (ci := 6) (v := .ref (d 1)) (C := RX6) (T := TX6) (N := 13) hx hb hts zi_X6_digest_X6 hown hK.1 hP 0 rfl rfl 0 (by decide) (hts _ zw_X6_digest_f7) (fun _ h9 => h9) rfl dX6_digest_15 ?_
  refine lv_iconst (v := 0) hx hb dX6_digest_18 (by decide) ?_
  refine z_iald (k := 0) hx hb hK.1 hP 1 0 rfl rfl rfl (by omega) (by omega) dX6_digest_19 ?_
  refine lv_i2l hx hb dX6_digest_20 rfl ?_
  refine lv_ladd hx hb dX6_digest_21 ?_
  refine lv_lstore_n (lv' := [(1, .long ((31 * 8302) + ((s9 0)).toInt64)), (0, .ref (d 0))]) hx hb dX6_digest_22 rfl hl (by decide) rfl (fun ls hl => ?_)
  refine lv_ldc2 hx hb hown (v := 31) (hts _ zw_X6_digest_c142) dX6_digest_23 ?_
  refine lv_lload_n hx hb dX6_digest_26 rfl (lv_at hl 0 rfl) ?_
  refine lv_lmul hx hb dX6_digest_27 ?_
  refine lv_aload_n hx hb dX6_digest_28 rfl (lv_at hl 1 rfl) ?_
  refine va_get (D := G.1) (ci := 6) (v := .ref (d 1)) (C := RX6) (T := TX6) (N := 13) hx hb hts zi_X6_digest_X6 hown hK.1 hP 0 rfl rfl 0 (by decide) (hts _ zw_X6_digest_f7) (fun _ h9 => h9) rfl dX6_digest_29 ?_
  refine lv_iconst (v := 1) hx hb dX6_digest_32 (by decide) ?_
  refine z_iald (k := 1) hx hb hK.1 hP 1 0 rfl rfl rfl (by omega) (by omega) dX6_digest_33 ?_
  refine lv_i2l hx hb dX6_digest_34 rfl ?_
  refine lv_ladd hx hb dX6_digest_35 ?_
  refine lv_lstore_n (lv' := [(1, .long ((31 * ((31 * 8302) + ((s9 0)).toInt64)) + ((s9 1)).toInt64)), (0, .ref (d 0))]) hx hb dX6_digest_36 rfl hl (by decide) rfl (fun ls hl => ?_)
  refine lv_ldc2 hx hb hown (v := 31) (hts _ zw_X6_digest_c142) dX6_digest_37 ?_
  refine lv_lload_n hx hb dX6_digest_40 rfl (lv_at hl 0 rfl) ?_
  refine lv_lmul hx hb dX6_digest_41 ?_
  refine lv_aload_n hx hb dX6_digest_42 rfl (lv_at hl 1 rfl) ?_
  have hPc := hP.sub (ws' := [((d 0), .inr (6, [.ref (d 1), .ref (d 2), .ref (d 3), .int (nI kn), .ref (d 4), .int (nI ln), .int 0, .ref (d 5), .int (nI tm), .ref (d 6), .int (nI kp), .int (nI pl), .int wr])), ((d 1), .inl (G.2.1 0, 80, .inl s9))]) [0, 1] rfl
  have hDc := hD.sub (ws' := [((d 0), .inr (6, [.ref (d 1), .ref (d 2), .ref (d 3), .int (nI kn), .ref (d 4), .int (nI ln), .int 0, .ref (d 5), .int (nI tm), .ref (d 6), .int (nI kp), .int (nI pl), .int wr])), ((d 1), .inl (G.2.1 0, 80, .inl s9))]) [0, 1] (by decide) rfl
  refine z_calli (wr := [((d 2), .inl (G.2.1 0, 80, .inl a9)), ((d 5), .inl (G.2.1 0, 30, .inl l9)), ((d 6), .inl (G.2.1 0, 30, .inl f9))]) (va_runV (As := []) (rest := [.long (31 * ((31 * ((31 * 8302) + ((s9 0)).toInt64)) + ((s9 1)).toInt64))]) ⟨hx, hb, hml, hown, hts⟩ (c_X6_code l G H.size d kn ln tm kp pl 0 wr s9) (cwV 0 hts gX6_digest_X6_code rfl rfl rfl (by decide +kernel) ⟨(Nat.le_of_ble_eq_true rfl), (Nat.le_of_ble_eq_true rfl)⟩) (zV (ci := 6) (q0 := 0) hK hPc hDc rfl rfl) rfl rfl hl.1 rfl (lv_room (Nat.le_of_ble_eq_true rfl)) dX6_digest_43 ⟨(Nat.le_of_ble_eq_true rfl), (Nat.le_of_ble_eq_true rfl)⟩) hP hD hS hA [0, 1] [2, 3, 4] rfl rfl (by decide) (by decide) (fun r_1 u_1 H locs hw_1 hP hD hS => ?_)
  subst hw_1
  have hP : va_P G.1 vwCl [((d 2), .inl (G.2.1 0, 80, .inl a9)), ((d 5), .inl (G.2.1 0, 30, .inl l9)), ((d 6), .inl (G.2.1 0, 30, .inl f9)), ((d 0), .inr (6, [.ref (d 1), .ref (d 2), .ref (d 3), .int (nI kn), .ref (d 4), .int (nI ln), .int 0, .ref (d 5), .int (nI tm), .ref (d 6), .int (nI kp), .int (nI pl), .int wr])), ((d 1), .inl (G.2.1 0, 80, .inl s9))] H := hP
  have hD : va_D A [((d 2), .inl (G.2.1 0, 80, .inl a9)), ((d 5), .inl (G.2.1 0, 30, .inl l9)), ((d 6), .inl (G.2.1 0, 30, .inl f9)), ((d 0), .inr (6, [.ref (d 1), .ref (d 2), .ref (d 3), .int (nI kn), .ref (d 4), .int (nI ln), .int 0, .ref (d 5), .int (nI tm), .ref (d 6), .int (nI kp), .int (nI pl), .int wr])), ((d 1), .inl (G.2.1 0, 80, .inl s9))] := hD
  refine lv_i2l hx hb dX6_digest_46 rfl ?_
  refine lv_ladd hx hb dX6_digest_47 ?_
  refine lv_lstore_n (lv' := [(1, .long ((31 * ((31 * ((31 * 8302) + ((s9 0)).toInt64)) + ((s9 1)).toInt64)) + ((if rmR s9 then (s9 3) else -1)).toInt64)), (0, .ref (d 0))]) hx hb dX6_digest_48 rfl hl (by decide) rfl (fun ls hl => ?_)
  refine lv_ldc2 hx hb hown (v := 31) (hts _ zw_X6_digest_c142) dX6_digest_49 ?_
  refine lv_lload_n hx hb dX6_digest_52 rfl (lv_at hl 0 rfl) ?_
  refine lv_lmul hx hb dX6_digest_53 ?_
  refine lv_aload_n hx hb dX6_digest_54 rfl (lv_at hl 1 rfl) ?_
  refine va_get (D := G.1) (ci := 6) (v := .ref (d 1)) (C := RX6) (T := TX6) (N := 13) hx hb hts zi_X6_digest_X6 hown hK.1 hP 3 rfl rfl 0 (by decide) (hts _ zw_X6_digest_f7) (fun _ h9 => h9) rfl dX6_digest_55 ?_
  refine lv_iconst (v := 5) hx hb dX6_digest_58 (by decide) ?_
  refine z_iald (k := 5) hx hb hK.1 hP 4 0 rfl rfl rfl (by omega) (by omega) dX6_digest_59 ?_
  refine lv_i2l hx hb dX6_digest_60 rfl ?_
  refine lv_ladd hx hb dX6_digest_61 ?_
  refine lv_lstore_n (lv' := [(1, .long ((31 * ((31 * ((31 * ((31 * 8302) + ((s9 0)).toInt64)) + ((s9 1)).toInt64)) + ((if rmR s9 then (s9 3) else -1)).toInt64)) + ((s9 5)).toInt64)), (0, .ref (d 0))]) hx hb dX6_digest_62 rfl hl (by decide) rfl (fun ls hl => ?_)
  refine lv_ldc2 hx hb hown (v := 31) (hts _ zw_X6_digest_c142) dX6_digest_63 ?_
  refine lv_lload_n hx hb dX6_digest_66 rfl (lv_at hl 0 rfl) ?_
  refine lv_lmul hx hb dX6_digest_67 ?_
  refine lv_aload_n hx hb dX6_digest_68 rfl (lv_at hl 1 rfl) ?_
  refine va_get (D := G.1) (ci := 6) (v := .ref (d 1)) (C := RX6) (T := TX6) (N := 13) hx hb hts zi_X6_digest_X6 hown hK.1 hP 3 rfl rfl 0 (by decide) (hts _ zw_X6_digest_f7) (fun _ h9 => h9) rfl dX6_digest_69 ?_
  refine lv_bipush (v := 7) hx hb dX6_digest_72 (by decide) ?_
  refine z_iald (k := 7) hx hb hK.1 hP 4 0 rfl rfl rfl (by omega) (by omega) dX6_digest_74 ?_
  refine lv_i2l hx hb dX6_digest_75 rfl ?_
  refine lv_ladd hx hb dX6_digest_76 ?_
  refine lv_lstore_n (lv' := [(1, .long ((31 * ((31 * ((31 * ((31 * ((31 * 8302) + ((s9 0)).toInt64)) + ((s9 1)).toInt64)) + ((if rmR s9 then (s9 3) else -1)).toInt64)) + ((s9 5)).toInt64)) + ((s9 7)).toInt64)), (0, .ref (d 0))]) hx hb dX6_digest_77 rfl hl (by decide) rfl (fun ls hl => ?_)
  refine lv_ldc2 hx hb hown (v := 31) (hts _ zw_X6_digest_c142) dX6_digest_78 ?_
  refine lv_lload_n hx hb dX6_digest_81 rfl (lv_at hl 0 rfl) ?_
  refine lv_lmul hx hb dX6_digest_82 ?_
  refine lv_aload_n hx hb dX6_digest_83 rfl (lv_at hl 1 rfl) ?_
  refine va_get (D := G.1) (ci := 6) (v := .ref (d 1)) (C := RX6) (T := TX6) (N := 13) hx hb hts zi_X6_digest_X6 hown hK.1 hP 3 rfl rfl 0 (by decide) (hts _ zw_X6_digest_f7) (fun _ h9 => h9) rfl dX6_digest_84 ?_
  refine lv_bipush (v := 48) hx hb dX6_digest_87 (by decide) ?_
  refine z_iald (k := 48) hx hb hK.1 hP 4 0 rfl rfl rfl (by omega) (by omega) dX6_digest_89 ?_
  refine lv_i2l hx hb dX6_digest_90 rfl ?_
  refine lv_ladd hx hb dX6_digest_91 ?_
  refine lv_lstore_n (lv' := [(1, .long ((31 * ((31 * ((31 * ((31 * ((31 * ((31 * 8302) + ((s9 0)).toInt64)) + ((s9 1)).toInt64)) + ((if rmR s9 then (s9 3) else -1)).toInt64)) + ((s9 5)).toInt64)) + ((s9 7)).toInt64)) + ((s9 48)).toInt64)), (0, .ref (d 0))]) hx hb dX6_digest_92 rfl hl (by decide) rfl (fun ls hl => ?_)
  refine lv_ldc2 hx hb hown (v := 31) (hts _ zw_X6_digest_c142) dX6_digest_93 ?_
  refine lv_lload_n hx hb dX6_digest_96 rfl (lv_at hl 0 rfl) ?_
  refine lv_lmul hx hb dX6_digest_97 ?_
  refine lv_aload_n hx hb dX6_digest_98 rfl (lv_at hl 1 rfl) ?_
  refine va_get (D := G.1) (ci := 6) (v := .ref (d 1)) (C := RX6) (T := TX6) (N := 13) hx hb hts zi_X6_digest_X6 hown hK.1 hP 3 rfl rfl 0 (by decide) (hts _ zw_X6_digest_f7) (fun _ h9 => h9) rfl dX6_digest_99 ?_
  refine lv_bipush (v := 8) hx hb dX6_digest_102 (by decide) ?_
  refine z_iald (k := 8) hx hb hK.1 hP 4 0 rfl rfl rfl (by omega) (by omega) dX6_digest_104 ?_
  refine lv_i2l hx hb dX6_digest_105 rfl ?_
  refine lv_ladd hx hb dX6_digest_106 ?_
  refine lv_lstore_n (lv' := [(1, .long ((31 * ((31 * ((31 * ((31 * ((31 * ((31 * ((31 * 8302) + ((s9 0)).toInt64)) + ((s9 1)).toInt64)) + ((if rmR s9 then (s9 3) else -1)).toInt64)) + ((s9 5)).toInt64)) + ((s9 7)).toInt64)) + ((s9 48)).toInt64)) + ((s9 8)).toInt64)), (0, .ref (d 0))]) hx hb dX6_digest_107 rfl hl (by decide) rfl (fun ls hl => ?_)
  refine lv_ldc2 hx hb hown (v := 31) (hts _ zw_X6_digest_c142) dX6_digest_108 ?_
  refine lv_lload_n hx hb dX6_digest_111 rfl (lv_at hl 0 rfl) ?_
  refine lv_lmul hx hb dX6_digest_112 ?_
  refine lv_aload_n hx hb dX6_digest_113 rfl (lv_at hl 1 rfl) ?_
  have hPc := hP.sub (ws' := [((d 0), .inr (6, [.ref (d 1), .ref (d 2), .ref (d 3), .int (nI kn), .ref (d 4), .int (nI ln), .int 0, .ref (d 5), .int (nI tm), .ref (d 6), .int (nI kp), .int (nI pl), .int wr])), ((d 1), .inl (G.2.1 0, 80, .inl s9)), ((d 2), .inl (G.2.1 0, 80, .inl a9)), ((d 5), .inl (G.2.1 0, 30, .inl l9)), ((d 6), .inl (G.2.1 0, 30, .inl f9))]) [3, 4, 0, 1, 2] rfl
  have hDc := hD.sub (ws' := [((d 0), .inr (6, [.ref (d 1), .ref (d 2), .ref (d 3), .int (nI kn), .ref (d 4), .int (nI ln), .int 0, .ref (d 5), .int (nI tm), .ref (d 6), .int (nI kp), .int (nI pl), .int wr])), ((d 1), .inl (G.2.1 0, 80, .inl s9)), ((d 2), .inl (G.2.1 0, 80, .inl a9)), ((d 5), .inl (G.2.1 0, 30, .inl l9)), ((d 6), .inl (G.2.1 0, 30, .inl f9))]) [3, 4, 0, 1, 2] (by decide) rfl
  refine z_calli (wr := []) (va_runV (As := []) (rest := [.long (31 * ((31 * ((31 * ((31 * ((31 * ((31 * ((31 * ((31 * 8302) + ((s9 0)).toInt64)) + ((s9 1)).toInt64)) + ((if rmR s9 then (s9 3) else -1)).toInt64)) + ((s9 5)).toInt64)) + ((s9 7)).toInt64)) + ((s9 48)).toInt64)) + ((s9 8)).toInt64))]) ⟨hx, hb, hml, hown, hts⟩ (c_X6_least l G H.size d kn ln tm kp pl 0 wr s9 a9 l9 f9 ad hx9 hs2 hlo9 c7 hc7 hcr) (cwV 0 hts gX6_digest_X6_least rfl rfl rfl (by decide +kernel) ⟨(Nat.le_of_ble_eq_true rfl), (Nat.le_of_ble_eq_true rfl)⟩) (zV (ci := 6) (q0 := 0) hK hPc hDc rfl rfl) rfl rfl hl.1 rfl (lv_room (Nat.le_of_ble_eq_true rfl)) dX6_digest_114 ⟨(Nat.le_of_ble_eq_true rfl), (Nat.le_of_ble_eq_true rfl)⟩) hP hD hS hA [3, 4, 0, 1, 2] [] rfl rfl (by decide) (by decide) (fun r_2 u_2 H locs hw_2 hP hD hS => ?_)
  have hP : va_P G.1 vwCl [((d 0), .inr (6, [.ref (d 1), .ref (d 2), .ref (d 3), .int (nI kn), .ref (d 4), .int (nI ln), .int 0, .ref (d 5), .int (nI u_2.2.1), .ref (d 6), .int (nI u_2.1.1.2.2.1), .int (nI pl), .int wr])), ((d 1), .inl (G.2.1 0, 80, .inl s9)), ((d 2), .inl (G.2.1 0, 80, .inl u_2.2.2)), ((d 5), .inl (G.2.1 0, 30, .inl u_2.1.2)), ((d 6), .inl (G.2.1 0, 30, .inl u_2.1.1.2.2.2))] H := hP
  have hD : va_D A [((d 0), .inr (6, [.ref (d 1), .ref (d 2), .ref (d 3), .int (nI kn), .ref (d 4), .int (nI ln), .int 0, .ref (d 5), .int (nI u_2.2.1), .ref (d 6), .int (nI u_2.1.1.2.2.1), .int (nI pl), .int wr])), ((d 1), .inl (G.2.1 0, 80, .inl s9)), ((d 2), .inl (G.2.1 0, 80, .inl u_2.2.2)), ((d 5), .inl (G.2.1 0, 30, .inl u_2.1.2)), ((d 6), .inl (G.2.1 0, 30, .inl u_2.1.1.2.2.2))] := hD
  refine lv_i2l hx hb dX6_digest_117 rfl ?_
  refine lv_ladd hx hb dX6_digest_118 ?_
  refine lv_lstore_n (lv' := [(1, .long ((31 * ((31 * ((31 * ((31 * ((31 * ((31 * ((31 * ((31 * 8302) + ((s9 0)).toInt64)) + ((s9 1)).toInt64)) + ((if rmR s9 then (s9 3) else -1)).toInt64)) + ((s9 5)).toInt64)) + ((s9 7)).toInt64)) + ((s9 48)).toInt64)) + ((s9 8)).toInt64)) + (r_2).toInt64)), (0, .ref (d 0))]) hx hb dX6_digest_119 rfl hl (by decide) rfl (fun ls hl => ?_)
  refine lv_ldc2 hx hb hown (v := 31) (hts _ zw_X6_digest_c142) dX6_digest_120 ?_
  refine lv_lload_n hx hb dX6_digest_123 rfl (lv_at hl 0 rfl) ?_
  refine lv_lmul hx hb dX6_digest_124 ?_
  refine lv_aload_n hx hb dX6_digest_125 rfl (lv_at hl 1 rfl) ?_
  have hPc := hP.sub (ws' := [((d 0), .inr (6, [.ref (d 1), .ref (d 2), .ref (d 3), .int (nI kn), .ref (d 4), .int (nI ln), .int 0, .ref (d 5), .int (nI u_2.2.1), .ref (d 6), .int (nI u_2.1.1.2.2.1), .int (nI pl), .int wr])), ((d 1), .inl (G.2.1 0, 80, .inl s9)), ((d 2), .inl (G.2.1 0, 80, .inl u_2.2.2)), ((d 5), .inl (G.2.1 0, 30, .inl u_2.1.2)), ((d 6), .inl (G.2.1 0, 30, .inl u_2.1.1.2.2.2))]) [0, 1, 2, 3, 4] rfl
  have hDc := hD.sub (ws' := [((d 0), .inr (6, [.ref (d 1), .ref (d 2), .ref (d 3), .int (nI kn), .ref (d 4), .int (nI ln), .int 0, .ref (d 5), .int (nI u_2.2.1), .ref (d 6), .int (nI u_2.1.1.2.2.1), .int (nI pl), .int wr])), ((d 1), .inl (G.2.1 0, 80, .inl s9)), ((d 2), .inl (G.2.1 0, 80, .inl u_2.2.2)), ((d 5), .inl (G.2.1 0, 30, .inl u_2.1.2)), ((d 6), .inl (G.2.1 0, 30, .inl u_2.1.1.2.2.2))]) [0, 1, 2, 3, 4] (by decide) rfl
  refine z_calli (wr := []) (va_runV (As := []) (rest := [.long (31 * ((31 * ((31 * ((31 * ((31 * ((31 * ((31 * ((31 * ((31 * 8302) + ((s9 0)).toInt64)) + ((s9 1)).toInt64)) + ((if rmR s9 then (s9 3) else -1)).toInt64)) + ((s9 5)).toInt64)) + ((s9 7)).toInt64)) + ((s9 48)).toInt64)) + ((s9 8)).toInt64)) + (r_2).toInt64))]) ⟨hx, hb, hml, hown, hts⟩ (c_X6_toCome l G H.size d kn ln u_2.2.1 u_2.1.1.2.2.1 pl 0 wr s9 u_2.2.2 u_2.1.2 u_2.1.1.2.2.2 ad hx9 c7 hc7 hin) (cwV 0 hts gX6_digest_X6_toCome rfl rfl rfl (by decide +kernel) ⟨(Nat.le_of_ble_eq_true rfl), (Nat.le_of_ble_eq_true rfl)⟩) (zV (ci := 6) (q0 := 0) hK hPc hDc rfl rfl) rfl rfl hl.1 rfl (lv_room (Nat.le_of_ble_eq_true rfl)) dX6_digest_126 ⟨(Nat.le_of_ble_eq_true rfl), (Nat.le_of_ble_eq_true rfl)⟩) hP hD hS hA [0, 1, 2, 3, 4] [] rfl rfl (by decide) (by decide) (fun r_3 u_3 H locs hw_3 hP hD hS => ?_)
  have hP : va_P G.1 vwCl [((d 0), .inr (6, [.ref (d 1), .ref (d 2), .ref (d 3), .int (nI kn), .ref (d 4), .int (nI ln), .int 0, .ref (d 5), .int (nI u_3.2.1), .ref (d 6), .int (nI u_3.1.1.2.2.1), .int (nI pl), .int wr])), ((d 1), .inl (G.2.1 0, 80, .inl s9)), ((d 2), .inl (G.2.1 0, 80, .inl u_3.2.2)), ((d 5), .inl (G.2.1 0, 30, .inl u_3.1.2)), ((d 6), .inl (G.2.1 0, 30, .inl u_3.1.1.2.2.2))] H := hP
  have hD : va_D A [((d 0), .inr (6, [.ref (d 1), .ref (d 2), .ref (d 3), .int (nI kn), .ref (d 4), .int (nI ln), .int 0, .ref (d 5), .int (nI u_3.2.1), .ref (d 6), .int (nI u_3.1.1.2.2.1), .int (nI pl), .int wr])), ((d 1), .inl (G.2.1 0, 80, .inl s9)), ((d 2), .inl (G.2.1 0, 80, .inl u_3.2.2)), ((d 5), .inl (G.2.1 0, 30, .inl u_3.1.2)), ((d 6), .inl (G.2.1 0, 30, .inl u_3.1.1.2.2.2))] := hD
  refine lv_i2l hx hb dX6_digest_129 rfl ?_
  refine lv_ladd hx hb dX6_digest_130 ?_
  refine lv_lstore_n (lv' := [(1, .long ((31 * ((31 * ((31 * ((31 * ((31 * ((31 * ((31 * ((31 * ((31 * 8302) + ((s9 0)).toInt64)) + ((s9 1)).toInt64)) + ((if rmR s9 then (s9 3) else -1)).toInt64)) + ((s9 5)).toInt64)) + ((s9 7)).toInt64)) + ((s9 48)).toInt64)) + ((s9 8)).toInt64)) + (r_2).toInt64)) + (r_3).toInt64)), (0, .ref (d 0))]) hx hb dX6_digest_131 rfl hl (by decide) rfl (fun ls hl => ?_)
  refine lv_ldc2 hx hb hown (v := 31) (hts _ zw_X6_digest_c142) dX6_digest_132 ?_
  refine lv_lload_n hx hb dX6_digest_135 rfl (lv_at hl 0 rfl) ?_
  refine lv_lmul hx hb dX6_digest_136 ?_
  refine lv_aload_n hx hb dX6_digest_137 rfl (lv_at hl 1 rfl) ?_
  have hPc := hP.sub (ws' := [((d 0), .inr (6, [.ref (d 1), .ref (d 2), .ref (d 3), .int (nI kn), .ref (d 4), .int (nI ln), .int 0, .ref (d 5), .int (nI u_3.2.1), .ref (d 6), .int (nI u_3.1.1.2.2.1), .int (nI pl), .int wr])), ((d 1), .inl (G.2.1 0, 80, .inl s9))]) [0, 1] rfl
  have hDc := hD.sub (ws' := [((d 0), .inr (6, [.ref (d 1), .ref (d 2), .ref (d 3), .int (nI kn), .ref (d 4), .int (nI ln), .int 0, .ref (d 5), .int (nI u_3.2.1), .ref (d 6), .int (nI u_3.1.1.2.2.1), .int (nI pl), .int wr])), ((d 1), .inl (G.2.1 0, 80, .inl s9))]) [0, 1] (by decide) rfl
  refine z_calli (wr := [((d 2), .inl (G.2.1 0, 80, .inl u_3.2.2)), ((d 5), .inl (G.2.1 0, 30, .inl u_3.1.2)), ((d 6), .inl (G.2.1 0, 30, .inl u_3.1.1.2.2.2))]) (va_runV (As := []) (rest := [.long (31 * ((31 * ((31 * ((31 * ((31 * ((31 * ((31 * ((31 * ((31 * ((31 * 8302) + ((s9 0)).toInt64)) + ((s9 1)).toInt64)) + ((if rmR s9 then (s9 3) else -1)).toInt64)) + ((s9 5)).toInt64)) + ((s9 7)).toInt64)) + ((s9 48)).toInt64)) + ((s9 8)).toInt64)) + (r_2).toInt64)) + (r_3).toInt64))]) ⟨hx, hb, hml, hown, hts⟩ (c_X6_forgets l G H.size d kn ln u_3.2.1 u_3.1.1.2.2.1 pl 0 wr s9) (cwV 0 hts gX6_digest_X6_forgets rfl rfl rfl (by decide +kernel) ⟨(Nat.le_of_ble_eq_true rfl), (Nat.le_of_ble_eq_true rfl)⟩) (zV (ci := 6) (q0 := 0) hK hPc hDc rfl rfl) rfl rfl hl.1 rfl (lv_room (Nat.le_of_ble_eq_true rfl)) dX6_digest_138 ⟨(Nat.le_of_ble_eq_true rfl), (Nat.le_of_ble_eq_true rfl)⟩) hP hD hS hA [0, 1] [2, 3, 4] rfl rfl (by decide) (by decide) (fun r_4 u_4 H locs hw_4 hP hD hS => ?_)
  subst hw_4
  have hP : va_P G.1 vwCl [((d 2), .inl (G.2.1 0, 80, .inl u_3.2.2)), ((d 5), .inl (G.2.1 0, 30, .inl u_3.1.2)), ((d 6), .inl (G.2.1 0, 30, .inl u_3.1.1.2.2.2)), ((d 0), .inr (6, [.ref (d 1), .ref (d 2), .ref (d 3), .int (nI kn), .ref (d 4), .int (nI ln), .int 0, .ref (d 5), .int (nI u_3.2.1), .ref (d 6), .int (nI u_3.1.1.2.2.1), .int (nI pl), .int wr])), ((d 1), .inl (G.2.1 0, 80, .inl s9))] H := hP
  have hD : va_D A [((d 2), .inl (G.2.1 0, 80, .inl u_3.2.2)), ((d 5), .inl (G.2.1 0, 30, .inl u_3.1.2)), ((d 6), .inl (G.2.1 0, 30, .inl u_3.1.1.2.2.2)), ((d 0), .inr (6, [.ref (d 1), .ref (d 2), .ref (d 3), .int (nI kn), .ref (d 4), .int (nI ln), .int 0, .ref (d 5), .int (nI u_3.2.1), .ref (d 6), .int (nI u_3.1.1.2.2.1), .int (nI pl), .int wr])), ((d 1), .inl (G.2.1 0, 80, .inl s9))] := hD
  refine lv_i2l hx hb dX6_digest_141 rfl ?_
  refine lv_ladd hx hb dX6_digest_142 ?_
  refine lv_topl (fun h0 eh0 => ?_)
  refine lv_lstore_n (lv' := [(1, .long h0), (0, .ref (d 0))]) hx hb dX6_digest_143 rfl hl (by decide) rfl (fun ls hl => ?_)
  refine lv_iconst (v := 0) hx hb dX6_digest_144 (by decide) ?_
  refine lv_istore_n (lv' := [(3, .int 0), (1, .long h0), (0, .ref (d 0))]) hx hb dX6_digest_145 rfl hl (by decide) rfl (fun ls hl => ?_)
  have loop : ∀ (n9 : Nat) (k : Nat), 16 - k < n9 → (k ≤ 16) → ∀ (H : Heap) (locs : List Loc) (ls : Array Slot), va_P G.1 vwCl [((d 0), .inr (6, [.ref (d 1), .ref (d 2), .ref (d 3), .int (nI kn), .ref (d 4), .int (nI ln), .int 0, .ref (d 5), .int (nI u_3.2.1), .ref (d 6), .int (nI u_3.1.1.2.2.1), .int (nI pl), .int wr])), ((d 1), .inl (G.2.1 0, 80, .inl s9)), ((d 2), .inl (G.2.1 0, 80, .inl u_3.2.2)), ((d 5), .inl (G.2.1 0, 30, .inl u_3.1.2)), ((d 6), .inl (G.2.1 0, 30, .inl u_3.1.1.2.2.2))] H → va_D A [((d 0), .inr (6, [.ref (d 1), .ref (d 2), .ref (d 3), .int (nI kn), .ref (d 4), .int (nI ln), .int 0, .ref (d 5), .int (nI u_3.2.1), .ref (d 6), .int (nI u_3.1.1.2.2.1), .int (nI pl), .int wr])), ((d 1), .inl (G.2.1 0, 80, .inl s9)), ((d 2), .inl (G.2.1 0, 80, .inl u_3.2.2)), ((d 5), .inl (G.2.1 0, 30, .inl u_3.1.2)), ((d 6), .inl (G.2.1 0, 30, .inl u_3.1.1.2.2.2))] → va_S A s.heap H locs → lv_has ls 4 [(0, .ref (d 0)), (1, .long (dga (fun j9 => s9 (16 + j9)) (fun j9 => s9 (32 + j9)) h0 k)), (3, .int (nI k))] → W p l e ({ frames := 6, cells := 0, slots := 0, locals := 137 } : Room) s m args below meth c H locs 0 0 (MQ below (zQl G (fun (v : Int64) (u : (Int32 × Int32) × (zL × zF) × Nat × zF) => v = dgr (fun j9 => s9 (9 + j9)) (dga (fun j9 => s9 (16 + j9)) (fun j9 => s9 (32 + j9)) (dgv (s9 0) (s9 1) (if rmR s9 then s9 3 else -1) (s9 5) (s9 7) (s9 48) (s9 8) u.1.1 u.1.2 (if rmR s9 then 61 - s9 6 else -1)) 16) 6 ∧ lsP (fun k9 => (geR s9 c7 (LO (frS (wd ad 0 0)) 21 (s9 0) (s9 1) (nI k9))).1) u.1.1 ∧ tcP (tcA c7 ad s9) u.1.2) (fun u => [((d 0), .inr (6, [.ref (d 1), .ref (d 2), .ref (d 3), .int (nI kn), .ref (d 4), .int (nI ln), .int 0, .ref (d 5), .int (nI u.2.2.1), .ref (d 6), .int (nI u.2.1.1.2.2.1), .int (nI pl), .int wr])), ((d 1), .inl (G.2.1 0, 80, .inl s9)), ((d 2), .inl (G.2.1 0, 80, .inl u.2.2.2)), ((d 5), .inl (G.2.1 0, 30, .inl u.2.1.2)), ((d 6), .inl (G.2.1 0, 30, .inl u.2.1.1.2.2.2))]) A) args s 0 0 A) (F0 m 146 ls []) := by
    intro n9
    induction n9 with
    | zero =>
      intro k hm9
      exact absurd hm9 (Nat.not_lt_zero _)
    | succ n9 ih =>
      intro k hm9 hk H locs ls hP hD hS hl
      refine lv_iload_n hx hb dX6_digest_146 rfl (lv_at hl 2 rfl) ?_
      refine lv_bipush (v := 16) hx hb dX6_digest_147 (by decide) ?_
      refine lv_icmp_ge (tgt := 192) hx hb dX6_digest_149 (by decide) (fun c_5 => ?_) (fun c_5 => ?_)
      · obtain rfl : k = 16 := by have := (z_le (a := 16) (b := k) rfl rfl (by omega) (by omega)).mp c_5; omega
        refine lv_iconst (v := 1) hx hb dX6_digest_192 (by decide) ?_
        refine lv_istore_n (lv' := [(3, .int 1), (0, .ref (d 0)), (1, .long (dga (fun j9 => s9 (16 + j9)) (fun j9 => s9 (32 + j9)) h0 16))]) hx hb dX6_digest_193 rfl hl (by decide) rfl (fun ls hl => ?_)
        have loop2 : ∀ (n9 : Nat) (k : Nat), 6 - k < n9 → (k ≤ 6) → ∀ (H : Heap) (locs : List Loc) (ls : Array Slot), va_P G.1 vwCl [((d 0), .inr (6, [.ref (d 1), .ref (d 2), .ref (d 3), .int (nI kn), .ref (d 4), .int (nI ln), .int 0, .ref (d 5), .int (nI u_3.2.1), .ref (d 6), .int (nI u_3.1.1.2.2.1), .int (nI pl), .int wr])), ((d 1), .inl (G.2.1 0, 80, .inl s9)), ((d 2), .inl (G.2.1 0, 80, .inl u_3.2.2)), ((d 5), .inl (G.2.1 0, 30, .inl u_3.1.2)), ((d 6), .inl (G.2.1 0, 30, .inl u_3.1.1.2.2.2))] H → va_D A [((d 0), .inr (6, [.ref (d 1), .ref (d 2), .ref (d 3), .int (nI kn), .ref (d 4), .int (nI ln), .int 0, .ref (d 5), .int (nI u_3.2.1), .ref (d 6), .int (nI u_3.1.1.2.2.1), .int (nI pl), .int wr])), ((d 1), .inl (G.2.1 0, 80, .inl s9)), ((d 2), .inl (G.2.1 0, 80, .inl u_3.2.2)), ((d 5), .inl (G.2.1 0, 30, .inl u_3.1.2)), ((d 6), .inl (G.2.1 0, 30, .inl u_3.1.1.2.2.2))] → va_S A s.heap H locs → lv_has ls 4 [(0, .ref (d 0)), (1, .long (dgr (fun j9 => s9 (9 + j9)) (dga (fun j9 => s9 (16 + j9)) (fun j9 => s9 (32 + j9)) h0 16) k)), (3, .int (nI (k + 1)))] → W p l e ({ frames := 6, cells := 0, slots := 0, locals := 137 } : Room) s m args below meth c H locs 0 0 (MQ below (zQl G (fun (v : Int64) (u : (Int32 × Int32) × (zL × zF) × Nat × zF) => v = dgr (fun j9 => s9 (9 + j9)) (dga (fun j9 => s9 (16 + j9)) (fun j9 => s9 (32 + j9)) (dgv (s9 0) (s9 1) (if rmR s9 then s9 3 else -1) (s9 5) (s9 7) (s9 48) (s9 8) u.1.1 u.1.2 (if rmR s9 then 61 - s9 6 else -1)) 16) 6 ∧ lsP (fun k9 => (geR s9 c7 (LO (frS (wd ad 0 0)) 21 (s9 0) (s9 1) (nI k9))).1) u.1.1 ∧ tcP (tcA c7 ad s9) u.1.2) (fun u => [((d 0), .inr (6, [.ref (d 1), .ref (d 2), .ref (d 3), .int (nI kn), .ref (d 4), .int (nI ln), .int 0, .ref (d 5), .int (nI u.2.2.1), .ref (d 6), .int (nI u.2.1.1.2.2.1), .int (nI pl), .int wr])), ((d 1), .inl (G.2.1 0, 80, .inl s9)), ((d 2), .inl (G.2.1 0, 80, .inl u.2.2.2)), ((d 5), .inl (G.2.1 0, 30, .inl u.2.1.2)), ((d 6), .inl (G.2.1 0, 30, .inl u.2.1.1.2.2.2))]) A) args s 0 0 A) (F0 m 194 ls []) := by
          intro n9
          induction n9 with
          | zero =>
            intro k hm9
            exact absurd hm9 (Nat.not_lt_zero _)
          | succ n9 ih =>
            intro k hm9 hk H locs ls hP hD hS hl
            refine lv_iload_n hx hb dX6_digest_194 rfl (lv_at hl 2 rfl) ?_
            refine lv_bipush (v := 7) hx hb dX6_digest_195 (by decide) ?_
            refine lv_icmp_ge (tgt := 223) hx hb dX6_digest_197 (by decide) (fun c_6 => ?_) (fun c_6 => ?_)
            · obtain rfl : k = 6 := by have := (z_le (a := 7) (b := k + 1) rfl rfl (by omega) (by omega)).mp c_6; omega
              refine lv_lload_n hx hb dX6_digest_223 rfl (lv_at hl 1 rfl) ?_
              have hP9 := hP.sub (ws' := [((d 0), .inr (6, [.ref (d 1), .ref (d 2), .ref (d 3), .int (nI kn), .ref (d 4), .int (nI ln), .int 0, .ref (d 5), .int (nI u_3.2.1), .ref (d 6), .int (nI u_3.1.1.2.2.1), .int (nI pl), .int wr])), ((d 1), .inl (G.2.1 0, 80, .inl s9)), ((d 2), .inl (G.2.1 0, 80, .inl u_3.2.2)), ((d 5), .inl (G.2.1 0, 30, .inl u_3.1.2)), ((d 6), .inl (G.2.1 0, 30, .inl u_3.1.1.2.2.2))]) [0, 1, 2, 3, 4] rfl
              have hD9 := hD.sub (ws' := [((d 0), .inr (6, [.ref (d 1), .ref (d 2), .ref (d 3), .int (nI kn), .ref (d 4), .int (nI ln), .int 0, .ref (d 5), .int (nI u_3.2.1), .ref (d 6), .int (nI u_3.1.1.2.2.1), .int (nI pl), .int wr])), ((d 1), .inl (G.2.1 0, 80, .inl s9)), ((d 2), .inl (G.2.1 0, 80, .inl u_3.2.2)), ((d 5), .inl (G.2.1 0, 30, .inl u_3.1.2)), ((d 6), .inl (G.2.1 0, 30, .inl u_3.1.1.2.2.2))]) [0, 1, 2, 3, 4] (by decide) rfl
              exact z_lret hx hb hr hlocks ((r_2, r_3), u_3) hP9 hD9 hS (Nat.le_of_ble_eq_true rfl) (Nat.le_of_ble_eq_true rfl) dX6_digest_224 ⟨by rw [show h0 = (dgv (s9 0) (s9 1) (if rmR s9 then s9 3 else -1) (s9 5) (s9 7) (s9 48) (s9 8) r_2 r_3 (if rmR s9 then 61 - s9 6 else -1)) from eh0], hw_2, hw_3⟩
            · have hkk : k < 6 := by have := mt (z_le (a := 7) (b := k + 1) rfl rfl (by omega) (by omega)).mpr c_6; omega
              refine lv_ldc2 hx hb hown (v := 31) (hts _ zw_X6_digest_c142) dX6_digest_200 ?_
              refine lv_lload_n hx hb dX6_digest_203 rfl (lv_at hl 1 rfl) ?_
              refine lv_lmul hx hb dX6_digest_204 ?_
              refine lv_aload_n hx hb dX6_digest_205 rfl (lv_at hl 0 rfl) ?_
              refine va_get (D := G.1) (ci := 6) (v := .ref (d 1)) (C := RX6) (T := TX6) (N := 13) hx hb hts zi_X6_digest_X6 hown hK.1 hP 0 rfl rfl 0 (by decide) (hts _ zw_X6_digest_f7) (fun _ h9 => h9) rfl dX6_digest_206 ?_
              refine lv_bipush (v := 9) hx hb dX6_digest_209 (by decide) ?_
              refine lv_iload_n hx hb dX6_digest_211 rfl (lv_at hl 2 rfl) ?_
              refine lv_iadd hx hb dX6_digest_212 ?_
              refine z_top (nI_add 9 (k + 1)) ?_
              refine z_iald (k := (9 + ((k + 1)))) hx hb hK.1 hP 1 0 rfl rfl rfl (by omega) (by omega) dX6_digest_213 ?_
              refine lv_i2l hx hb dX6_digest_214 rfl ?_
              refine lv_ladd hx hb dX6_digest_215 ?_
              refine lv_lstore_n (lv' := [(1, .long ((31 * (dgr (fun j9 => s9 (9 + j9)) (dga (fun j9 => s9 (16 + j9)) (fun j9 => s9 (32 + j9)) h0 16) k)) + ((s9 (9 + ((k + 1))))).toInt64)), (0, .ref (d 0)), (3, .int (nI (k + 1)))]) hx hb dX6_digest_216 rfl hl (by decide) rfl (fun ls hl => ?_)
              refine lv_iinc (v := (nI (k + 1 + 1))) (lv' := [(3, .int (nI (k + 1 + 1))), (1, .long ((31 * (dgr (fun j9 => s9 (9 + j9)) (dga (fun j9 => s9 (16 + j9)) (fun j9 => s9 (32 + j9)) h0 16) k)) + ((s9 (9 + ((k + 1))))).toInt64)), (0, .ref (d 0))]) hx hb dX6_digest_217 hl (k := 2) rfl (nI_1 (k + 1)) (by decide) rfl (fun ls hl => ?_)
              refine lv_goto (tgt := 194) hx hb dX6_digest_220 (by decide) ?_
              exact ih (k + 1) (by omega) (by omega) _ _ _ (hP.sub [0, 1, 2, 3, 4] rfl) (hD.sub [0, 1, 2, 3, 4] (by decide) rfl) hS (lv_sub hl [2, 1, 0] rfl)
        exact loop2 _ 0 (Nat.lt_succ_self _) (by omega) _ _ _ (hP.sub [0, 1, 2, 3, 4] rfl) (hD.sub [0, 1, 2, 3, 4] (by decide) rfl) hS (lv_sub hl [1, 2, 0] rfl)
      · have hkk : k < 16 := by have := mt (z_le (a := 16) (b := k) rfl rfl (by omega) (by omega)).mpr c_5; omega
        refine lv_ldc2 hx hb hown (v := 31) (hts _ zw_X6_digest_c142) dX6_digest_152 ?_
        refine lv_lload_n hx hb dX6_digest_155 rfl (lv_at hl 1 rfl) ?_
        refine lv_lmul hx hb dX6_digest_156 ?_
        refine lv_aload_n hx hb dX6_digest_157 rfl (lv_at hl 0 rfl) ?_
        refine va_get (D := G.1) (ci := 6) (v := .ref (d 1)) (C := RX6) (T := TX6) (N := 13) hx hb hts zi_X6_digest_X6 hown hK.1 hP 0 rfl rfl 0 (by decide) (hts _ zw_X6_digest_f7) (fun _ h9 => h9) rfl dX6_digest_158 ?_
        refine lv_bipush (v := 16) hx hb dX6_digest_161 (by decide) ?_
        refine lv_iload_n hx hb dX6_digest_163 rfl (lv_at hl 2 rfl) ?_
        refine lv_iadd hx hb dX6_digest_164 ?_
        refine z_top (nI_add 16 k) ?_
        refine z_iald (k := (16 + k)) hx hb hK.1 hP 1 0 rfl rfl rfl (by omega) (by omega) dX6_digest_165 ?_
        refine lv_i2l hx hb dX6_digest_166 rfl ?_
        refine lv_ladd hx hb dX6_digest_167 ?_
        refine lv_lstore_n (lv' := [(1, .long ((31 * (dga (fun j9 => s9 (16 + j9)) (fun j9 => s9 (32 + j9)) h0 k)) + ((s9 (16 + k))).toInt64)), (0, .ref (d 0)), (3, .int (nI k))]) hx hb dX6_digest_168 rfl hl (by decide) rfl (fun ls hl => ?_)
        refine lv_ldc2 hx hb hown (v := 31) (hts _ zw_X6_digest_c142) dX6_digest_169 ?_
        refine lv_lload_n hx hb dX6_digest_172 rfl (lv_at hl 0 rfl) ?_
        refine lv_lmul hx hb dX6_digest_173 ?_
        refine lv_aload_n hx hb dX6_digest_174 rfl (lv_at hl 1 rfl) ?_
        refine va_get (D := G.1) (ci := 6) (v := .ref (d 1)) (C := RX6) (T := TX6) (N := 13) hx hb hts zi_X6_digest_X6 hown hK.1 hP 0 rfl rfl 0 (by decide) (hts _ zw_X6_digest_f7) (fun _ h9 => h9) rfl dX6_digest_175 ?_
        refine lv_bipush (v := 32) hx hb dX6_digest_178 (by decide) ?_
        refine lv_iload_n hx hb dX6_digest_180 rfl (lv_at hl 2 rfl) ?_
        refine lv_iadd hx hb dX6_digest_181 ?_
        refine z_top (nI_add 32 k) ?_
        refine z_iald (k := (32 + k)) hx hb hK.1 hP 1 0 rfl rfl rfl (by omega) (by omega) dX6_digest_182 ?_
        refine lv_i2l hx hb dX6_digest_183 rfl ?_
        refine lv_ladd hx hb dX6_digest_184 ?_
        refine lv_lstore_n (lv' := [(1, .long ((31 * ((31 * (dga (fun j9 => s9 (16 + j9)) (fun j9 => s9 (32 + j9)) h0 k)) + ((s9 (16 + k))).toInt64)) + ((s9 (32 + k))).toInt64)), (0, .ref (d 0)), (3, .int (nI k))]) hx hb dX6_digest_185 rfl hl (by decide) rfl (fun ls hl => ?_)
        refine lv_iinc (v := (nI (k + 1))) (lv' := [(3, .int (nI (k + 1))), (1, .long ((31 * ((31 * (dga (fun j9 => s9 (16 + j9)) (fun j9 => s9 (32 + j9)) h0 k)) + ((s9 (16 + k))).toInt64)) + ((s9 (32 + k))).toInt64)), (0, .ref (d 0))]) hx hb dX6_digest_186 hl (k := 2) rfl (nI_1 k) (by decide) rfl (fun ls hl => ?_)
        refine lv_goto (tgt := 146) hx hb dX6_digest_189 (by decide) ?_
        exact ih (k + 1) (by omega) (by omega) _ _ _ (hP.sub [0, 1, 2, 3, 4] rfl) (hD.sub [0, 1, 2, 3, 4] (by decide) rfl) hS (lv_sub hl [2, 1, 0] rfl)
  exact loop _ 0 (Nat.lt_succ_self _) (by omega) _ _ _ (hP.sub [3, 4, 0, 1, 2] rfl) (hD.sub [3, 4, 0, 1, 2] (by decide) rfl) hS (lv_sub hl [2, 1, 0] rfl)
end
