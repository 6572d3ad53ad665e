section
theorem zw_X6_sign_f119 : Cond.fieldLink RX6 119 "LightReceiverModel" "place" "I" ∈ wsX6_sign := by decide +kernel
theorem zi_X6_sign_X6 : ∀ w ∈ wsX60, w ∈ wsX6_sign := fun _ h => List.mem_cons_of_mem _ (List.mem_append_right _ h)
theorem zw_X6_sign_f116 : Cond.fieldLink RX6 116 "LightReceiverModel" "length" "I" ∈ wsX6_sign := by decide +kernel
theorem zw_X6_sign_f122 : Cond.fieldLink RX6 122 "LightReceiverModel" "isWrong" "Z" ∈ wsX6_sign := by decide +kernel
theorem zw_X6_sign_f19 : Cond.fieldLink RX6 19 "LightReceiverModel" "text" "[I" ∈ wsX6_sign := by decide +kernel
set_option maxHeartbeats 1000000 in
set_option maxRecDepth 100000 in
theorem c_X6_sign (l : Launch) (G : zG) (sz : Nat) (d : Nat → Nat) (kn ln tm kp pl : Nat) (th wr : Int32) (hln : ln ≤ 60) (hpl0 : pl < 1000) (t9 : zF) (lo hi : Int32) : zMi l yX6_sign wsX6_sign ({ frames := 1, cells := 0, slots := 0, locals := 22 } : Room) [.ref (d 0), .int lo, .int hi] G [((d 0), .inr (6, [.ref (d 1), .ref (d 2), .ref (d 3), .int (nI kn), .ref (d 4), .int (nI ln), .int th, .ref (d 5), .int (nI tm), .ref (d 6), .int (nI kp), .int (nI pl), .int wr])), ((d 4), .inl (G.2.1 0, 60, .inl t9))] (fun (v : Int32) (u : Nat × Int32) => v = sgV t9 ln pl ∧ u = sgF t9 ln lo hi (pl, wr)) (fun u => [((d 0), .inr (6, [.ref (d 1), .ref (d 2), .ref (d 3), .int (nI kn), .ref (d 4), .int (nI ln), .int th, .ref (d 5), .int (nI tm), .ref (d 6), .int (nI kp), .int (nI u.1), .int u.2])), ((d 4), .inl (G.2.1 0, 60, .inl t9))]) sz 0 0 := by
  refine zMi_of (cc := cX6_sign) (maxL := 4) (ret := (some .int)) (by decide) rfl (Nat.le_of_ble_eq_true rfl) ?_
  intro p e s m args below meth c A ls hx hb hr hml hts hown hlocks hnm hK hP hD hAe hS hA hl hsz
  have hown : s.vm.findClass RX6 = some m.cls := hown
  have hP : va_P G.1 vwCl [((d 0), .inr (6, [.ref (d 1), .ref (d 2), .ref (d 3), .int (nI kn), .ref (d 4), .int (nI ln), .int th, .ref (d 5), .int (nI tm), .ref (d 6), .int (nI kp), .int (nI pl), .int wr])), ((d 4), .inl (G.2.1 0, 60, .inl t9))] s.heap := hP
  have hD : va_D A [((d 0), .inr (6, [.ref (d 1), .ref (d 2), .ref (d 3), .int (nI kn), .ref (d 4), .int (nI ln), .int th, .ref (d 5), .int (nI tm), .ref (d 6), .int (nI kp), .int (nI pl), .int wr])), ((d 4), .inl (G.2.1 0, 60, .inl t9))] := hD
  have hl : lv_has ls 4 [(0, .ref (d 0)), (1, .int lo), (2, .int hi)] := hl
  refine lv_aload_n hx hb dX6_sign_0 rfl (lv_at hl 0 rfl) ?_
  refine va_get (D := G.1) (ci := 6) (v := .int (nI pl)) (C := RX6) (T := TX6) (N := 13) hx hb hts zi_X6_sign_X6 hown hK.1 hP 0 rfl rfl 11 (by decide) (hts _ zw_X6_sign_f119) (fun _ h9 => h9) rfl dX6_sign_1 ?_
  refine lv_aload_n hx hb dX6_sign_4 rfl (lv_at hl 0 rfl) ?_
  refine va_get (D := G.1) (ci := 6) (v := .int (nI ln)) (C := RX6) (T := TX6) (N := 13) hx hb hts zi_X6_sign_X6 hown hK.1 hP 0 rfl rfl 5 (by decide) (hts _ zw_X6_sign_f116) (fun _ h9 => h9) rfl dX6_sign_5 ?_
  refine lv_icmp_ge (tgt := 23) hx hb dX6_sign_8 (by decide) (fun c_1 => ?_) (fun c_1 => ?_)
  · have hpl : ¬ pl < ln := by have := (z_le (a := ln) (b := pl) rfl rfl (by omega) (by omega)).mp c_1; omega
    refine lv_iconst (v := 0) hx hb dX6_sign_23 (by decide) ?_
    refine lv_istore_n (lv' := [(3, .int 0), (0, .ref (d 0)), (1, .int lo), (2, .int hi)]) hx hb dX6_sign_24 rfl hl (by decide) rfl (fun ls hl => ?_)
    refine lv_aload_n hx hb dX6_sign_25 rfl (lv_at hl 1 rfl) ?_
    refine lv_aload_n hx hb dX6_sign_26 rfl (lv_at hl 1 rfl) ?_
    refine va_get (D := G.1) (ci := 6) (v := .int wr) (C := RX6) (T := TX6) (N := 13) hx hb hts zi_X6_sign_X6 hown hK.1 hP 0 rfl rfl 12 (by decide) (hts _ zw_X6_sign_f122) (fun _ h9 => h9) rfl dX6_sign_27 ?_
    refine lv_if_ne (tgt := 53) hx hb dX6_sign_30 (by decide) (fun c_2 => ?_) (fun c_2 => ?_)
    · refine lv_iconst (v := 1) hx hb dX6_sign_53 (by decide) ?_
      refine lv_goto (tgt := 58) hx hb dX6_sign_54 (by decide) ?_
      refine va_put (D := G.1) (ci := 6) (v := .int 1) (ty := .boolean) (C := RX6) (T := TX6) (N := 13) hx hb hts zi_X6_sign_X6 tyX6 tyX6_ok nmX6 hown hK.1 hP hD hS 0 rfl rfl 12 (by decide) (hts _ zw_X6_sign_f122) (fun _ h9 => h9) rfl (by decide +kernel) rfl rfl (Nat.le_of_ble_eq_true rfl) dX6_sign_58 (fun H locs hP hD hS => ?_)
      have hP : va_P G.1 vwCl [((d 0), .inr (6, [.ref (d 1), .ref (d 2), .ref (d 3), .int (nI kn), .ref (d 4), .int (nI ln), .int th, .ref (d 5), .int (nI tm), .ref (d 6), .int (nI kp), .int (nI pl), .int 1])), ((d 4), .inl (G.2.1 0, 60, .inl t9))] H := hP
      have hD : va_D A [((d 0), .inr (6, [.ref (d 1), .ref (d 2), .ref (d 3), .int (nI kn), .ref (d 4), .int (nI ln), .int th, .ref (d 5), .int (nI tm), .ref (d 6), .int (nI kp), .int (nI pl), .int 1])), ((d 4), .inl (G.2.1 0, 60, .inl t9))] := hD
      refine lv_aload_n hx hb dX6_sign_61 rfl (lv_at hl 1 rfl) ?_
      refine lv_dup hx hb dX6_sign_62 rfl ?_
      refine va_get (D := G.1) (ci := 6) (v := .int (nI pl)) (C := RX6) (T := TX6) (N := 13) hx hb hts zi_X6_sign_X6 hown hK.1 hP 0 rfl rfl 11 (by decide) (hts _ zw_X6_sign_f119) (fun _ h9 => h9) rfl dX6_sign_63 ?_
      refine lv_aload_n hx hb dX6_sign_66 rfl (lv_at hl 1 rfl) ?_
      refine va_get (D := G.1) (ci := 6) (v := .int 1) (C := RX6) (T := TX6) (N := 13) hx hb hts zi_X6_sign_X6 hown hK.1 hP 0 rfl rfl 12 (by decide) (hts _ zw_X6_sign_f122) (fun _ h9 => h9) rfl dX6_sign_67 ?_
      refine lv_if_eq (tgt := 77) hx hb dX6_sign_70 (by decide) (fun c_3 => ?_) (fun c_3 => ?_)
      · exact absurd c_3 (by decide)
      · refine lv_iconst (v := 0) hx hb dX6_sign_73 (by decide) ?_
        refine lv_goto (tgt := 78) hx hb dX6_sign_74 (by decide) ?_
        refine lv_iadd hx hb dX6_sign_78 ?_
        refine z_top (show nI pl + 0 = nI pl from nI_add pl 0) ?_
        refine va_put (D := G.1) (ci := 6) (v := .int (nI pl)) (ty := .int) (C := RX6) (T := TX6) (N := 13) hx hb hts zi_X6_sign_X6 tyX6 tyX6_ok nmX6 hown hK.1 hP hD hS 0 rfl rfl 11 (by decide) (hts _ zw_X6_sign_f119) (fun _ h9 => h9) rfl (by decide +kernel) rfl rfl (Nat.le_of_ble_eq_true rfl) dX6_sign_79 (fun H locs hP hD hS => ?_)
        have hP : va_P G.1 vwCl [((d 0), .inr (6, [.ref (d 1), .ref (d 2), .ref (d 3), .int (nI kn), .ref (d 4), .int (nI ln), .int th, .ref (d 5), .int (nI tm), .ref (d 6), .int (nI kp), .int (nI pl), .int 1])), ((d 4), .inl (G.2.1 0, 60, .inl t9))] H := hP
        have hD : va_D A [((d 0), .inr (6, [.ref (d 1), .ref (d 2), .ref (d 3), .int (nI kn), .ref (d 4), .int (nI ln), .int th, .ref (d 5), .int (nI tm), .ref (d 6), .int (nI kp), .int (nI pl), .int 1])), ((d 4), .inl (G.2.1 0, 60, .inl t9))] := hD
        refine lv_iload_n hx hb dX6_sign_82 rfl (lv_at hl 0 rfl) ?_
        have hP9 := hP.sub (ws' := [((d 0), .inr (6, [.ref (d 1), .ref (d 2), .ref (d 3), .int (nI kn), .ref (d 4), .int (nI ln), .int th, .ref (d 5), .int (nI tm), .ref (d 6), .int (nI kp), .int (nI pl), .int 1])), ((d 4), .inl (G.2.1 0, 60, .inl t9))]) [0, 1] rfl
        have hD9 := hD.sub (ws' := [((d 0), .inr (6, [.ref (d 1), .ref (d 2), .ref (d 3), .int (nI kn), .ref (d 4), .int (nI ln), .int th, .ref (d 5), .int (nI tm), .ref (d 6), .int (nI kp), .int (nI pl), .int 1])), ((d 4), .inl (G.2.1 0, 60, .inl t9))]) [0, 1] (by decide) rfl
        exact z_iret hx hb hr rfl hlocks (pl, 1) hP9 hD9 hS (Nat.le_of_ble_eq_true rfl) (Nat.le_of_ble_eq_true rfl) dX6_sign_83 ⟨(if_neg hpl).symm, (if_neg (fun z => c_2 z.1)).symm⟩
    · refine lv_aload_n hx hb dX6_sign_33 rfl (lv_at hl 1 rfl) ?_
      refine va_get (D := G.1) (ci := 6) (v := .int (nI pl)) (C := RX6) (T := TX6) (N := 13) hx hb hts zi_X6_sign_X6 hown hK.1 hP 0 rfl rfl 11 (by decide) (hts _ zw_X6_sign_f119) (fun _ h9 => h9) rfl dX6_sign_34 ?_
      refine lv_aload_n hx hb dX6_sign_37 rfl (lv_at hl 1 rfl) ?_
      refine va_get (D := G.1) (ci := 6) (v := .int (nI ln)) (C := RX6) (T := TX6) (N := 13) hx hb hts zi_X6_sign_X6 hown hK.1 hP 0 rfl rfl 5 (by decide) (hts _ zw_X6_sign_f116) (fun _ h9 => h9) rfl dX6_sign_38 ?_
      refine lv_icmp_ge (tgt := 53) hx hb dX6_sign_41 (by decide) (fun c_4 => ?_) (fun c_4 => ?_)
      · refine lv_iconst (v := 1) hx hb dX6_sign_53 (by decide) ?_
        refine lv_goto (tgt := 58) hx hb dX6_sign_54 (by decide) ?_
        refine va_put (D := G.1) (ci := 6) (v := .int 1) (ty := .boolean) (C := RX6) (T := TX6) (N := 13) hx hb hts zi_X6_sign_X6 tyX6 tyX6_ok nmX6 hown hK.1 hP hD hS 0 rfl rfl 12 (by decide) (hts _ zw_X6_sign_f122) (fun _ h9 => h9) rfl (by decide +kernel) rfl rfl (Nat.le_of_ble_eq_true rfl) dX6_sign_58 (fun H locs hP hD hS => ?_)
        have hP : va_P G.1 vwCl [((d 0), .inr (6, [.ref (d 1), .ref (d 2), .ref (d 3), .int (nI kn), .ref (d 4), .int (nI ln), .int th, .ref (d 5), .int (nI tm), .ref (d 6), .int (nI kp), .int (nI pl), .int 1])), ((d 4), .inl (G.2.1 0, 60, .inl t9))] H := hP
        have hD : va_D A [((d 0), .inr (6, [.ref (d 1), .ref (d 2), .ref (d 3), .int (nI kn), .ref (d 4), .int (nI ln), .int th, .ref (d 5), .int (nI tm), .ref (d 6), .int (nI kp), .int (nI pl), .int 1])), ((d 4), .inl (G.2.1 0, 60, .inl t9))] := hD
        refine lv_aload_n hx hb dX6_sign_61 rfl (lv_at hl 1 rfl) ?_
        refine lv_dup hx hb dX6_sign_62 rfl ?_
        refine va_get (D := G.1) (ci := 6) (v := .int (nI pl)) (C := RX6) (T := TX6) (N := 13) hx hb hts zi_X6_sign_X6 hown hK.1 hP 0 rfl rfl 11 (by decide) (hts _ zw_X6_sign_f119) (fun _ h9 => h9) rfl dX6_sign_63 ?_
        refine lv_aload_n hx hb dX6_sign_66 rfl (lv_at hl 1 rfl) ?_
        refine va_get (D := G.1) (ci := 6) (v := .int 1) (C := RX6) (T := TX6) (N := 13) hx hb hts zi_X6_sign_X6 hown hK.1 hP 0 rfl rfl 12 (by decide) (hts _ zw_X6_sign_f122) (fun _ h9 => h9) rfl dX6_sign_67 ?_
        refine lv_if_eq (tgt := 77) hx hb dX6_sign_70 (by decide) (fun c_5 => ?_) (fun c_5 => ?_)
        · exact absurd c_5 (by decide)
        · refine lv_iconst (v := 0) hx hb dX6_sign_73 (by decide) ?_
          refine lv_goto (tgt := 78) hx hb dX6_sign_74 (by decide) ?_
          refine lv_iadd hx hb dX6_sign_78 ?_
          refine z_top (show nI pl + 0 = nI pl from nI_add pl 0) ?_
          refine va_put (D := G.1) (ci := 6) (v := .int (nI pl)) (ty := .int) (C := RX6) (T := TX6) (N := 13) hx hb hts zi_X6_sign_X6 tyX6 tyX6_ok nmX6 hown hK.1 hP hD hS 0 rfl rfl 11 (by decide) (hts _ zw_X6_sign_f119) (fun _ h9 => h9) rfl (by decide +kernel) rfl rfl (Nat.le_of_ble_eq_true rfl) dX6_sign_79 (fun H locs hP hD hS => ?_)
          have hP : va_P G.1 vwCl [((d 0), .inr (6, [.ref (d 1), .ref (d 2), .ref (d 3), .int (nI kn), .ref (d 4), .int (nI ln), .int th, .ref (d 5), .int (nI tm), .ref (d 6), .int (nI kp), .int (nI pl), .int 1])), ((d 4), .inl (G.2.1 0, 60, .inl t9))] H := hP
          have hD : va_D A [((d 0), .inr (6, [.ref (d 1), .ref (d 2), .ref (d 3), .int (nI kn), .ref (d 4), .int (nI ln), .int th, .ref (d 5), .int (nI tm), .ref (d 6), .int (nI kp), .int (nI pl), .int 1])), ((d 4), .inl (G.2.1 0, 60, .inl t9))] := hD
          refine lv_iload_n hx hb dX6_sign_82 rfl (lv_at hl 0 rfl) ?_
          have hP9 := hP.sub (ws' := [((d 0), .inr (6, [.ref (d 1), .ref (d 2), .ref (d 3), .int (nI kn), .ref (d 4), .int (nI ln), .int th, .ref (d 5), .int (nI tm), .ref (d 6), .int (nI kp), .int (nI pl), .int 1])), ((d 4), .inl (G.2.1 0, 60, .inl t9))]) [0, 1] rfl
          have hD9 := hD.sub (ws' := [((d 0), .inr (6, [.ref (d 1), .ref (d 2), .ref (d 3), .int (nI kn), .ref (d 4), .int (nI ln), .int th, .ref (d 5), .int (nI tm), .ref (d 6), .int (nI kp), .int (nI pl), .int 1])), ((d 4), .inl (G.2.1 0, 60, .inl t9))]) [0, 1] (by decide) rfl
          exact z_iret hx hb hr rfl hlocks (pl, 1) hP9 hD9 hS (Nat.le_of_ble_eq_true rfl) (Nat.le_of_ble_eq_true rfl) dX6_sign_83 ⟨(if_neg hpl).symm, (if_neg (fun z => hpl z.2.1)).symm⟩
      · exact absurd ((z_le (a := ln) (b := pl) rfl rfl (by omega) (by omega)).mpr (by omega)) c_4
  · have hpl : pl < ln := by have := mt (z_le (a := ln) (b := pl) rfl rfl (by omega) (by omega)).mpr c_1; omega
    refine lv_aload_n hx hb dX6_sign_11 rfl (lv_at hl 0 rfl) ?_
    refine va_get (D := G.1) (ci := 6) (v := .ref (d 4)) (C := RX6) (T := TX6) (N := 13) hx hb hts zi_X6_sign_X6 hown hK.1 hP 0 rfl rfl 4 (by decide) (hts _ zw_X6_sign_f19) (fun _ h9 => h9) rfl dX6_sign_12 ?_
    refine lv_aload_n hx hb dX6_sign_15 rfl (lv_at hl 0 rfl) ?_
    refine va_get (D := G.1) (ci := 6) (v := .int (nI pl)) (C := RX6) (T := TX6) (N := 13) hx hb hts zi_X6_sign_X6 hown hK.1 hP 0 rfl rfl 11 (by decide) (hts _ zw_X6_sign_f119) (fun _ h9 => h9) rfl dX6_sign_16 ?_
    refine z_iald (k := pl) hx hb hK.1 hP 1 0 rfl rfl rfl (by omega) (by omega) dX6_sign_19 ?_
    refine lv_goto (tgt := 24) hx hb dX6_sign_20 (by decide) ?_
    refine lv_istore_n (lv' := [(3, .int (t9 pl)), (0, .ref (d 0)), (1, .int lo), (2, .int hi)]) hx hb dX6_sign_24 rfl hl (by decide) rfl (fun ls hl => ?_)
    refine lv_aload_n hx hb dX6_sign_25 rfl (lv_at hl 1 rfl) ?_
    refine lv_aload_n hx hb dX6_sign_26 rfl (lv_at hl 1 rfl) ?_
    refine va_get (D := G.1) (ci := 6) (v := .int wr) (C := RX6) (T := TX6) (N := 13) hx hb hts zi_X6_sign_X6 hown hK.1 hP 0 rfl rfl 12 (by decide) (hts _ zw_X6_sign_f122) (fun _ h9 => h9) rfl dX6_sign_27 ?_
    refine lv_if_ne (tgt := 53) hx hb dX6_sign_30 (by decide) (fun c_6 => ?_) (fun c_6 => ?_)
    · refine lv_iconst (v := 1) hx hb dX6_sign_53 (by decide) ?_
      refine lv_goto (tgt := 58) hx hb dX6_sign_54 (by decide) ?_
      refine va_put (D := G.1) (ci := 6) (v := .int 1) (ty := .boolean) (C := RX6) (T := TX6) (N := 13) hx hb hts zi_X6_sign_X6 tyX6 tyX6_ok nmX6 hown hK.1 hP hD hS 0 rfl rfl 12 (by decide) (hts _ zw_X6_sign_f122) (fun _ h9 => h9) rfl (by decide +kernel) rfl rfl (Nat.le_of_ble_eq_true rfl) dX6_sign_58 (fun H locs hP hD hS => ?_)
      have hP : va_P G.1 vwCl [((d 0), .inr (6, [.ref (d 1), .ref (d 2), .ref (d 3), .int (nI kn), .ref (d 4), .int (nI ln), .int th, .ref (d 5), .int (nI tm), .ref (d 6), .int (nI kp), .int (nI pl), .int 1])), ((d 4), .inl (G.2.1 0, 60, .inl t9))] H := hP
      have hD : va_D A [((d 0), .inr (6, [.ref (d 1), .ref (d 2), .ref (d 3), .int (nI kn), .ref (d 4), .int (nI ln), .int th, .ref (d 5), .int (nI tm), .ref (d 6), .int (nI kp), .int (nI pl), .int 1])), ((d 4), .inl (G.2.1 0, 60, .inl t9))] := hD
      refine lv_aload_n hx hb dX6_sign_61 rfl (lv_at hl 1 rfl) ?_
      refine lv_dup hx hb dX6_sign_62 rfl ?_
      refine va_get (D := G.1) (ci := 6) (v := .int (nI pl)) (C := RX6) (T := TX6) (N := 13) hx hb hts zi_X6_sign_X6 hown hK.1 hP 0 rfl rfl 11 (by decide) (hts _ zw_X6_sign_f119) (fun _ h9 => h9) rfl dX6_sign_63 ?_
      refine lv_aload_n hx hb dX6_sign_66 rfl (lv_at hl 1 rfl) ?_
      refine va_get (D := G.1) (ci := 6) (v := .int 1) (C := RX6) (T := TX6) (N := 13) hx hb hts zi_X6_sign_X6 hown hK.1 hP 0 rfl rfl 12 (by decide) (hts _ zw_X6_sign_f122) (fun _ h9 => h9) rfl dX6_sign_67 ?_
      refine lv_if_eq (tgt := 77) hx hb dX6_sign_70 (by decide) (fun c_7 => ?_) (fun c_7 => ?_)
      · exact absurd c_7 (by decide)
      · refine lv_iconst (v := 0) hx hb dX6_sign_73 (by decide) ?_
        refine lv_goto (tgt := 78) hx hb dX6_sign_74 (by decide) ?_
        refine lv_iadd hx hb dX6_sign_78 ?_
        refine z_top (show nI pl + 0 = nI pl from nI_add pl 0) ?_
        refine va_put (D := G.1) (ci := 6) (v := .int (nI pl)) (ty := .int) (C := RX6) (T := TX6) (N := 13) hx hb hts zi_X6_sign_X6 tyX6 tyX6_ok nmX6 hown hK.1 hP hD hS 0 rfl rfl 11 (by decide) (hts _ zw_X6_sign_f119) (fun _ h9 => h9) rfl (by decide +kernel) rfl rfl (Nat.le_of_ble_eq_true rfl) dX6_sign_79 (fun H locs hP hD hS => ?_)
        have hP : va_P G.1 vwCl [((d 0), .inr (6, [.ref (d 1), .ref (d 2), .ref (d 3), .int (nI kn), .ref (d 4), .int (nI ln), .int th, .ref (d 5), .int (nI tm), .ref (d 6), .int (nI kp), .int (nI pl), .int 1])), ((d 4), .inl (G.2.1 0, 60, .inl t9))] H := hP
        have hD : va_D A [((d 0), .inr (6, [.ref (d 1), .ref (d 2), .ref (d 3), .int (nI kn), .ref (d 4), .int (nI ln), .int th, .ref (d 5), .int (nI tm), .ref (d 6), .int (nI kp), .int (nI pl), .int 1])), ((d 4), .inl (G.2.1 0, 60, .inl t9))] := hD
        refine lv_iload_n hx hb dX6_sign_82 rfl (lv_at hl 0 rfl) ?_
        have hP9 := hP.sub (ws' := [((d 0), .inr (6, [.ref (d 1), .ref (d 2), .ref (d 3), .int (nI kn), .ref (d 4), .int (nI ln), .int th, .ref (d 5), .int (nI tm), .ref (d 6), .int (nI kp), .int (nI pl), .int 1])), ((d 4), .inl (G.2.1 0, 60, .inl t9))]) [0, 1] rfl
        have hD9 := hD.sub (ws' := [((d 0), .inr (6, [.ref (d 1), .ref (d 2), .ref (d 3), .int (nI kn), .ref (d 4), .int (nI ln), .int th, .ref (d 5), .int (nI tm), .ref (d 6), .int (nI kp), .int (nI pl), .int 1])), ((d 4), .inl (G.2.1 0, 60, .inl t9))]) [0, 1] (by decide) rfl
        exact z_iret hx hb hr rfl hlocks (pl, 1) hP9 hD9 hS (Nat.le_of_ble_eq_true rfl) (Nat.le_of_ble_eq_true rfl) dX6_sign_83 ⟨(if_pos hpl).symm, (if_neg (fun z => c_6 z.1)).symm⟩
    · refine lv_aload_n hx hb dX6_sign_33 rfl (lv_at hl 1 rfl) ?_
      refine va_get (D := G.1) (ci := 6) (v := .int (nI pl)) (C := RX6) (T := TX6) (N := 13) hx hb hts zi_X6_sign_X6 hown hK.1 hP 0 rfl rfl 11 (by decide) (hts _ zw_X6_sign_f119) (fun _ h9 => h9) rfl dX6_sign_34 ?_
      refine lv_aload_n hx hb dX6_sign_37 rfl (lv_at hl 1 rfl) ?_
      refine va_get (D := G.1) (ci := 6) (v := .int (nI ln)) (C := RX6) (T := TX6) (N := 13) hx hb hts zi_X6_sign_X6 hown hK.1 hP 0 rfl rfl 5 (by decide) (hts _ zw_X6_sign_f116) (fun _ h9 => h9) rfl dX6_sign_38 ?_
      refine lv_icmp_ge (tgt := 53) hx hb dX6_sign_41 (by decide) (fun c_8 => ?_) (fun c_8 => ?_)
      · exact absurd ((z_le (a := ln) (b := pl) rfl rfl (by omega) (by omega)).mp c_8) (by omega)
      · refine lv_iload_n hx hb dX6_sign_44 rfl (lv_at hl 0 rfl) ?_
        refine lv_iload_n hx hb dX6_sign_45 rfl (lv_at hl 2 rfl) ?_
        refine lv_iload_n hx hb dX6_sign_46 rfl (lv_at hl 3 rfl) ?_
        have hPc := hP.sub (ws' := []) [] rfl
        have hDc := hD.sub (ws' := []) [] (by decide) rfl
        refine z_calli (wr := [((d 0), .inr (6, [.ref (d 1), .ref (d 2), .ref (d 3), .int (nI kn), .ref (d 4), .int (nI ln), .int th, .ref (d 5), .int (nI tm), .ref (d 6), .int (nI kp), .int (nI pl), .int wr])), ((d 4), .inl (G.2.1 0, 60, .inl t9))]) (va_runS (As := [.int (t9 pl), .int lo, .int hi]) (rest := [.ref (d 0)]) ⟨hx, hb, hml, hown, hts⟩ (c_X6_in l G s.heap.size (t9 pl) lo hi) (va_cwS 3 hts gX6_sign_X6_in rfl rfl rfl (by decide +kernel) ⟨(Nat.le_of_ble_eq_true rfl), (Nat.le_of_ble_eq_true rfl)⟩) (zS hK hPc hDc) rfl rfl hl.1 rfl (lv_room (Nat.le_of_ble_eq_true rfl)) dX6_sign_47 ⟨(Nat.le_of_ble_eq_true rfl), (Nat.le_of_ble_eq_true rfl)⟩) hP hD hS hA [] [0, 1] rfl rfl (by decide) (by decide) (fun r_9 u_9 H locs hw_9 hP hD hS => ?_)
        subst hw_9
        have hP : va_P G.1 vwCl [((d 0), .inr (6, [.ref (d 1), .ref (d 2), .ref (d 3), .int (nI kn), .ref (d 4), .int (nI ln), .int th, .ref (d 5), .int (nI tm), .ref (d 6), .int (nI kp), .int (nI pl), .int wr])), ((d 4), .inl (G.2.1 0, 60, .inl t9))] H := hP
        have hD : va_D A [((d 0), .inr (6, [.ref (d 1), .ref (d 2), .ref (d 3), .int (nI kn), .ref (d 4), .int (nI ln), .int th, .ref (d 5), .int (nI tm), .ref (d 6), .int (nI kp), .int (nI pl), .int wr])), ((d 4), .inl (G.2.1 0, 60, .inl t9))] := hD
        refine lv_if_ne (tgt := 57) hx hb dX6_sign_50 (by decide) (fun c_10 => ?_) (fun c_10 => ?_)
        · have f_c_10 : lo ≤ (t9 pl) ∧ (t9 pl) ≤ hi := Decidable.byContradiction (fun z => c_10 (if_neg z))
          refine lv_iconst (v := 0) hx hb dX6_sign_57 (by decide) ?_
          refine va_put (D := G.1) (ci := 6) (v := .int 0) (ty := .boolean) (C := RX6) (T := TX6) (N := 13) hx hb hts zi_X6_sign_X6 tyX6 tyX6_ok nmX6 hown hK.1 hP hD hS 0 rfl rfl 12 (by decide) (hts _ zw_X6_sign_f122) (fun _ h9 => h9) rfl (by decide +kernel) rfl rfl (Nat.le_of_ble_eq_true rfl) dX6_sign_58 (fun H locs hP hD hS => ?_)
          have hP : va_P G.1 vwCl [((d 0), .inr (6, [.ref (d 1), .ref (d 2), .ref (d 3), .int (nI kn), .ref (d 4), .int (nI ln), .int th, .ref (d 5), .int (nI tm), .ref (d 6), .int (nI kp), .int (nI pl), .int 0])), ((d 4), .inl (G.2.1 0, 60, .inl t9))] H := hP
          have hD : va_D A [((d 0), .inr (6, [.ref (d 1), .ref (d 2), .ref (d 3), .int (nI kn), .ref (d 4), .int (nI ln), .int th, .ref (d 5), .int (nI tm), .ref (d 6), .int (nI kp), .int (nI pl), .int 0])), ((d 4), .inl (G.2.1 0, 60, .inl t9))] := hD
          refine lv_aload_n hx hb dX6_sign_61 rfl (lv_at hl 1 rfl) ?_
          refine lv_dup hx hb dX6_sign_62 rfl ?_
          refine va_get (D := G.1) (ci := 6) (v := .int (nI pl)) (C := RX6) (T := TX6) (N := 13) hx hb hts zi_X6_sign_X6 hown hK.1 hP 0 rfl rfl 11 (by decide) (hts _ zw_X6_sign_f119) (fun _ h9 => h9) rfl dX6_sign_63 ?_
          refine lv_aload_n hx hb dX6_sign_66 rfl (lv_at hl 1 rfl) ?_
          refine va_get (D := G.1) (ci := 6) (v := .int 0) (C := RX6) (T := TX6) (N := 13) hx hb hts zi_X6_sign_X6 hown hK.1 hP 0 rfl rfl 12 (by decide) (hts _ zw_X6_sign_f122) (fun _ h9 => h9) rfl dX6_sign_67 ?_
          refine lv_if_eq (tgt := 77) hx hb dX6_sign_70 (by decide) (fun c_11 => ?_) (fun c_11 => ?_)
          · refine lv_iconst (v := 1) hx hb dX6_sign_77 (by decide) ?_
            refine lv_iadd hx hb dX6_sign_78 ?_
            refine z_top (nI_1 pl) ?_
            refine va_put (D := G.1) (ci := 6) (v := .int (nI (pl + 1))) (ty := .int) (C := RX6) (T := TX6) (N := 13) hx hb hts zi_X6_sign_X6 tyX6 tyX6_ok nmX6 hown hK.1 hP hD hS 0 rfl rfl 11 (by decide) (hts _ zw_X6_sign_f119) (fun _ h9 => h9) rfl (by decide +kernel) rfl rfl (Nat.le_of_ble_eq_true rfl) dX6_sign_79 (fun H locs hP hD hS => ?_)
            have hP : va_P G.1 vwCl [((d 0), .inr (6, [.ref (d 1), .ref (d 2), .ref (d 3), .int (nI kn), .ref (d 4), .int (nI ln), .int th, .ref (d 5), .int (nI tm), .ref (d 6), .int (nI kp), .int (nI (pl + 1)), .int 0])), ((d 4), .inl (G.2.1 0, 60, .inl t9))] H := hP
            have hD : va_D A [((d 0), .inr (6, [.ref (d 1), .ref (d 2), .ref (d 3), .int (nI kn), .ref (d 4), .int (nI ln), .int th, .ref (d 5), .int (nI tm), .ref (d 6), .int (nI kp), .int (nI (pl + 1)), .int 0])), ((d 4), .inl (G.2.1 0, 60, .inl t9))] := hD
            refine lv_iload_n hx hb dX6_sign_82 rfl (lv_at hl 0 rfl) ?_
            have hP9 := hP.sub (ws' := [((d 0), .inr (6, [.ref (d 1), .ref (d 2), .ref (d 3), .int (nI kn), .ref (d 4), .int (nI ln), .int th, .ref (d 5), .int (nI tm), .ref (d 6), .int (nI kp), .int (nI (pl + 1)), .int 0])), ((d 4), .inl (G.2.1 0, 60, .inl t9))]) [0, 1] rfl
            have hD9 := hD.sub (ws' := [((d 0), .inr (6, [.ref (d 1), .ref (d 2), .ref (d 3), .int (nI kn), .ref (d 4), .int (nI ln), .int th, .ref (d 5), .int (nI tm), .ref (d 6), .int (nI kp), .int (nI (pl + 1)), .int 0])), ((d 4), .inl (G.2.1 0, 60, .inl t9))]) [0, 1] (by decide) rfl
            exact z_iret hx hb hr rfl hlocks (pl + 1, 0) hP9 hD9 hS (Nat.le_of_ble_eq_true rfl) (Nat.le_of_ble_eq_true rfl) dX6_sign_83 ⟨(if_pos hpl).symm, (if_pos ⟨c_6, hpl, f_c_10.1, f_c_10.2⟩).symm⟩
          · exact absurd rfl c_11
        · have f_c_10 : ¬ (lo ≤ (t9 pl) ∧ (t9 pl) ≤ hi) := fun z => absurd (c_10 : (if lo ≤ (t9 pl) ∧ (t9 pl) ≤ hi then (1 : Int32) else 0) = 0) (by rw [if_pos z]; decide)
          refine lv_iconst (v := 1) hx hb dX6_sign_53 (by decide) ?_
          refine lv_goto (tgt := 58) hx hb dX6_sign_54 (by decide) ?_
          refine va_put (D := G.1) (ci := 6) (v := .int 1) (ty := .boolean) (C := RX6) (T := TX6) (N := 13) hx hb hts zi_X6_sign_X6 tyX6 tyX6_ok nmX6 hown hK.1 hP hD hS 0 rfl rfl 12 (by decide) (hts _ zw_X6_sign_f122) (fun _ h9 => h9) rfl (by decide +kernel) rfl rfl (Nat.le_of_ble_eq_true rfl) dX6_sign_58 (fun H locs hP hD hS => ?_)
          have hP : va_P G.1 vwCl [((d 0), .inr (6, [.ref (d 1), .ref (d 2), .ref (d 3), .int (nI kn), .ref (d 4), .int (nI ln), .int th, .ref (d 5), .int (nI tm), .ref (d 6), .int (nI kp), .int (nI pl), .int 1])), ((d 4), .inl (G.2.1 0, 60, .inl t9))] H := hP
          have hD : va_D A [((d 0), .inr (6, [.ref (d 1), .ref (d 2), .ref (d 3), .int (nI kn), .ref (d 4), .int (nI ln), .int th, .ref (d 5), .int (nI tm), .ref (d 6), .int (nI kp), .int (nI pl), .int 1])), ((d 4), .inl (G.2.1 0, 60, .inl t9))] := hD
          refine lv_aload_n hx hb dX6_sign_61 rfl (lv_at hl 1 rfl) ?_
          refine lv_dup hx hb dX6_sign_62 rfl ?_
          refine va_get (D := G.1) (ci := 6) (v := .int (nI pl)) (C := RX6) (T := TX6) (N := 13) hx hb hts zi_X6_sign_X6 hown hK.1 hP 0 rfl rfl 11 (by decide) (hts _ zw_X6_sign_f119) (fun _ h9 => h9) rfl dX6_sign_63 ?_
          refine lv_aload_n hx hb dX6_sign_66 rfl (lv_at hl 1 rfl) ?_
          refine va_get (D := G.1) (ci := 6) (v := .int 1) (C := RX6) (T := TX6) (N := 13) hx hb hts zi_X6_sign_X6 hown hK.1 hP 0 rfl rfl 12 (by decide) (hts _ zw_X6_sign_f122) (fun _ h9 => h9) rfl dX6_sign_67 ?_
          refine lv_if_eq (tgt := 77) hx hb dX6_sign_70 (by decide) (fun c_12 => ?_) (fun c_12 => ?_)
          · exact absurd c_12 (by decide)
          · refine lv_iconst (v := 0) hx hb dX6_sign_73 (by decide) ?_
            refine lv_goto (tgt := 78) hx hb dX6_sign_74 (by decide) ?_
            refine lv_iadd hx hb dX6_sign_78 ?_
            refine z_top (show nI pl + 0 = nI pl from nI_add pl 0) ?_
            refine va_put (D := G.1) (ci := 6) (v := .int (nI pl)) (ty := .int) (C := RX6) (T := TX6) (N := 13) hx hb hts zi_X6_sign_X6 tyX6 tyX6_ok nmX6 hown hK.1 hP hD hS 0 rfl rfl 11 (by decide) (hts _ zw_X6_sign_f119) (fun _ h9 => h9) rfl (by decide +kernel) rfl rfl (Nat.le_of_ble_eq_true rfl) dX6_sign_79 (fun H locs hP hD hS => ?_)
            have hP : va_P G.1 vwCl [((d 0), .inr (6, [.ref (d 1), .ref (d 2), .ref (d 3), .int (nI kn), .ref (d 4), .int (nI ln), .int th, .ref (d 5), .int (nI tm), .ref (d 6), .int (nI kp), .int (nI pl), .int 1])), ((d 4), .inl (G.2.1 0, 60, .inl t9))] H := hP
            have hD : va_D A [((d 0), .inr (6, [.ref (d 1), .ref (d 2), .ref (d 3), .int (nI kn), .ref (d 4), .int (nI ln), .int th, .ref (d 5), .int (nI tm), .ref (d 6), .int (nI kp), .int (nI pl), .int 1])), ((d 4), .inl (G.2.1 0, 60, .inl t9))] := hD
            refine lv_iload_n hx hb dX6_sign_82 rfl (lv_at hl 0 rfl) ?_
            have hP9 := hP.sub (ws' := [((d 0), .inr (6, [.ref (d 1), .ref (d 2), .ref (d 3), .int (nI kn), .ref (d 4), .int (nI ln), .int th, .ref (d 5), .int (nI tm), .ref (d 6), .int (nI kp), .int (nI pl), .int 1])), ((d 4), .inl (G.2.1 0, 60, .inl t9))]) [0, 1] rfl
            have hD9 := hD.sub (ws' := [((d 0), .inr (6, [.ref (d 1), .ref (d 2), .ref (d 3), .int (nI kn), .ref (d 4), .int (nI ln), .int th, .ref (d 5), .int (nI tm), .ref (d 6), .int (nI kp), .int (nI pl), .int 1])), ((d 4), .inl (G.2.1 0, 60, .inl t9))]) [0, 1] (by decide) rfl
            exact z_iret hx hb hr rfl hlocks (pl, 1) hP9 hD9 hS (Nat.le_of_ble_eq_true rfl) (Nat.le_of_ble_eq_true rfl) dX6_sign_83 ⟨(if_pos hpl).symm, (if_neg (fun z => f_c_10 z.2.2)).symm⟩
theorem zw_X6_isNext_f122 : Cond.fieldLink RX6 122 "LightReceiverModel" "isWrong" "Z" ∈ wsX6_isNext := by decide +kernel
theorem zi_X6_isNext_X6 : ∀ w ∈ wsX60, w ∈ wsX6_isNext := fun _ h => List.mem_cons_of_mem _ (List.mem_append_right _ h)
theorem zw_X6_isNext_f119 : Cond.fieldLink RX6 119 "LightReceiverModel" "place" "I" ∈ wsX6_isNext := by decide +kernel
theorem zw_X6_isNext_f116 : Cond.fieldLink RX6 116 "LightReceiverModel" "length" "I" ∈ wsX6_isNext := by decide +kernel
theorem zw_X6_isNext_f19 : Cond.fieldLink RX6 19 "LightReceiverModel" "text" "[I" ∈ wsX6_isNext := by decide +kernel
set_option maxHeartbeats 1000000 in
set_option maxRecDepth 100000 in
theorem c_X6_isNext (l : Launch) (G : zG) (sz : Nat) (d : Nat → Nat) (kn ln tm kp pl : Nat) (th wr : Int32) (hln : ln ≤ 60) (hpl0 : pl < 1000) (t9 : zF) (lo hi : Int32) : zMi l yX6_isNext wsX6_isNext ({ frames := 1, cells := 0, slots := 0, locals := 22 } : Room) [.ref (d 0), .int lo, .int hi] G [((d 0), .inr (6, [.ref (d 1), .ref (d 2), .ref (d 3), .int (nI kn), .ref (d 4), .int (nI ln), .int th, .ref (d 5), .int (nI tm), .ref (d 6), .int (nI kp), .int (nI pl), .int wr])), ((d 4), .inl (G.2.1 0, 60, .inl t9))] (fun (v : Int32) (_ : Unit) => v = if nxF t9 ln lo hi (pl, wr) then 1 else 0) (fun _ => [((d 0), .inr (6, [.ref (d 1), .ref (d 2), .ref (d 3), .int (nI kn), .ref (d 4), .int (nI ln), .int th, .ref (d 5), .int (nI tm), .ref (d 6), .int (nI kp), .int (nI pl), .int wr])), ((d 4), .inl (G.2.1 0, 60, .inl t9))]) sz 0 0 := by
  refine zMi_of (cc := cX6_isNext) (maxL := 3) (ret := (some .boolean)) (by decide) rfl (Nat.le_of_ble_eq_true rfl) ?_
  intro p e s m args below meth c A ls hx hb hr hml hts hown hlocks hnm hK hP hD hAe hS hA hl hsz
  have hown : s.vm.findClass RX6 = some m.cls := hown
  have hP : va_P G.1 vwCl [((d 0), .inr (6, [.ref (d 1), .ref (d 2), .ref (d 3), .int (nI kn), .ref (d 4), .int (nI ln), .int th, .ref (d 5), .int (nI tm), .ref (d 6), .int (nI kp), .int (nI pl), .int wr])), ((d 4), .inl (G.2.1 0, 60, .inl t9))] s.heap := hP
  have hD : va_D A [((d 0), .inr (6, [.ref (d 1), .ref (d 2), .ref (d 3), .int (nI kn), .ref (d 4), .int (nI ln), .int th, .ref (d 5), .int (nI tm), .ref (d 6), .int (nI kp), .int (nI pl), .int wr])), ((d 4), .inl (G.2.1 0, 60, .inl t9))] := hD
  have hl : lv_has ls 3 [(0, .ref (d 0)), (1, .int lo), (2, .int hi)] := hl
  refine lv_aload_n hx hb dX6_isNext_0 rfl (lv_at hl 0 rfl) ?_
  refine va_get (D := G.1) (ci := 6) (v := .int wr) (C := RX6) (T := TX6) (N := 13) hx hb hts zi_X6_isNext_X6 hown hK.1 hP 0 rfl rfl 12 (by decide) (hts _ zw_X6_isNext_f122) (fun _ h9 => h9) rfl dX6_isNext_1 ?_
  refine lv_if_ne (tgt := 39) hx hb dX6_isNext_4 (by decide) (fun c_1 => ?_) (fun c_1 => ?_)
  · refine lv_iconst (v := 0) hx hb dX6_isNext_39 (by decide) ?_
    have hP9 := hP.sub (ws' := [((d 0), .inr (6, [.ref (d 1), .ref (d 2), .ref (d 3), .int (nI kn), .ref (d 4), .int (nI ln), .int th, .ref (d 5), .int (nI tm), .ref (d 6), .int (nI kp), .int (nI pl), .int wr])), ((d 4), .inl (G.2.1 0, 60, .inl t9))]) [0, 1] rfl
    have hD9 := hD.sub (ws' := [((d 0), .inr (6, [.ref (d 1), .ref (d 2), .ref (d 3), .int (nI kn), .ref (d 4), .int (nI ln), .int th, .ref (d 5), .int (nI tm), .ref (d 6), .int (nI kp), .int (nI pl), .int wr])), ((d 4), .inl (G.2.1 0, 60, .inl t9))]) [0, 1] (by decide) rfl
    exact z_iret hx hb hr rfl hlocks () hP9 hD9 hS (Nat.le_of_ble_eq_true rfl) (Nat.le_of_ble_eq_true rfl) dX6_isNext_40 (if_neg (fun z => c_1 z.1)).symm
  · refine lv_aload_n hx hb dX6_isNext_7 rfl (lv_at hl 0 rfl) ?_
    refine va_get (D := G.1) (ci := 6) (v := .int (nI pl)) (C := RX6) (T := TX6) (N := 13) hx hb hts zi_X6_isNext_X6 hown hK.1 hP 0 rfl rfl 11 (by decide) (hts _ zw_X6_isNext_f119) (fun _ h9 => h9) rfl dX6_isNext_8 ?_
    refine lv_aload_n hx hb dX6_isNext_11 rfl (lv_at hl 0 rfl) ?_
    refine va_get (D := G.1) (ci := 6) (v := .int (nI ln)) (C := RX6) (T := TX6) (N := 13) hx hb hts zi_X6_isNext_X6 hown hK.1 hP 0 rfl rfl 5 (by decide) (hts _ zw_X6_isNext_f116) (fun _ h9 => h9) rfl dX6_isNext_12 ?_
    refine lv_icmp_ge (tgt := 39) hx hb dX6_isNext_15 (by decide) (fun c_2 => ?_) (fun c_2 => ?_)
    · have hpl : ¬ pl < ln := by have := (z_le (a := ln) (b := pl) rfl rfl (by omega) (by omega)).mp c_2; omega
      refine lv_iconst (v := 0) hx hb dX6_isNext_39 (by decide) ?_
      have hP9 := hP.sub (ws' := [((d 0), .inr (6, [.ref (d 1), .ref (d 2), .ref (d 3), .int (nI kn), .ref (d 4), .int (nI ln), .int th, .ref (d 5), .int (nI tm), .ref (d 6), .int (nI kp), .int (nI pl), .int wr])), ((d 4), .inl (G.2.1 0, 60, .inl t9))]) [0, 1] rfl
      have hD9 := hD.sub (ws' := [((d 0), .inr (6, [.ref (d 1), .ref (d 2), .ref (d 3), .int (nI kn), .ref (d 4), .int (nI ln), .int th, .ref (d 5), .int (nI tm), .ref (d 6), .int (nI kp), .int (nI pl), .int wr])), ((d 4), .inl (G.2.1 0, 60, .inl t9))]) [0, 1] (by decide) rfl
      exact z_iret hx hb hr rfl hlocks () hP9 hD9 hS (Nat.le_of_ble_eq_true rfl) (Nat.le_of_ble_eq_true rfl) dX6_isNext_40 (if_neg (fun z => hpl z.2.1)).symm
    · have hpl : pl < ln := by have := mt (z_le (a := ln) (b := pl) rfl rfl (by omega) (by omega)).mpr c_2; omega
      refine lv_aload_n hx hb dX6_isNext_18 rfl (lv_at hl 0 rfl) ?_
      refine va_get (D := G.1) (ci := 6) (v := .ref (d 4)) (C := RX6) (T := TX6) (N := 13) hx hb hts zi_X6_isNext_X6 hown hK.1 hP 0 rfl rfl 4 (by decide) (hts _ zw_X6_isNext_f19) (fun _ h9 => h9) rfl dX6_isNext_19 ?_
      refine lv_aload_n hx hb dX6_isNext_22 rfl (lv_at hl 0 rfl) ?_
      refine va_get (D := G.1) (ci := 6) (v := .int (nI pl)) (C := RX6) (T := TX6) (N := 13) hx hb hts zi_X6_isNext_X6 hown hK.1 hP 0 rfl rfl 11 (by decide) (hts _ zw_X6_isNext_f119) (fun _ h9 => h9) rfl dX6_isNext_23 ?_
      refine z_iald (k := pl) hx hb hK.1 hP 1 0 rfl rfl rfl (by omega) (by omega) dX6_isNext_26 ?_
      refine lv_iload_n hx hb dX6_isNext_27 rfl (lv_at hl 1 rfl) ?_
      refine lv_iload_n hx hb dX6_isNext_28 rfl (lv_at hl 2 rfl) ?_
      have hPc := hP.sub (ws' := []) [] rfl
      have hDc := hD.sub (ws' := []) [] (by decide) rfl
      refine z_calli (wr := [((d 0), .inr (6, [.ref (d 1), .ref (d 2), .ref (d 3), .int (nI kn), .ref (d 4), .int (nI ln), .int th, .ref (d 5), .int (nI tm), .ref (d 6), .int (nI kp), .int (nI pl), .int wr])), ((d 4), .inl (G.2.1 0, 60, .inl t9))]) (va_runS (As := [.int (t9 pl), .int lo, .int hi]) (rest := []) ⟨hx, hb, hml, hown, hts⟩ (c_X6_in l G s.heap.size (t9 pl) lo hi) (va_cwS 3 hts gX6_isNext_X6_in rfl rfl rfl (by decide +kernel) ⟨(Nat.le_of_ble_eq_true rfl), (Nat.le_of_ble_eq_true rfl)⟩) (zS hK hPc hDc) rfl rfl hl.1 rfl (lv_room (Nat.le_of_ble_eq_true rfl)) dX6_isNext_29 ⟨(Nat.le_of_ble_eq_true rfl), (Nat.le_of_ble_eq_true rfl)⟩) hP hD hS hA [] [0, 1] rfl rfl (by decide) (by decide) (fun r_3 u_3 H locs hw_3 hP hD hS => ?_)
      subst hw_3
      have hP : va_P G.1 vwCl [((d 0), .inr (6, [.ref (d 1), .ref (d 2), .ref (d 3), .int (nI kn), .ref (d 4), .int (nI ln), .int th, .ref (d 5), .int (nI tm), .ref (d 6), .int (nI kp), .int (nI pl), .int wr])), ((d 4), .inl (G.2.1 0, 60, .inl t9))] H := hP
      have hD : va_D A [((d 0), .inr (6, [.ref (d 1), .ref (d 2), .ref (d 3), .int (nI kn), .ref (d 4), .int (nI ln), .int th, .ref (d 5), .int (nI tm), .ref (d 6), .int (nI kp), .int (nI pl), .int wr])), ((d 4), .inl (G.2.1 0, 60, .inl t9))] := hD
      refine lv_if_eq (tgt := 39) hx hb dX6_isNext_32 (by decide) (fun c_4 => ?_) (fun c_4 => ?_)
      · have f_c_4 : ¬ (lo ≤ (t9 pl) ∧ (t9 pl) ≤ hi) := fun z => absurd c_4 (by rw [if_pos z]; decide)
        refine lv_iconst (v := 0) hx hb dX6_isNext_39 (by decide) ?_
        have hP9 := hP.sub (ws' := [((d 0), .inr (6, [.ref (d 1), .ref (d 2), .ref (d 3), .int (nI kn), .ref (d 4), .int (nI ln), .int th, .ref (d 5), .int (nI tm), .ref (d 6), .int (nI kp), .int (nI pl), .int wr])), ((d 4), .inl (G.2.1 0, 60, .inl t9))]) [0, 1] rfl
        have hD9 := hD.sub (ws' := [((d 0), .inr (6, [.ref (d 1), .ref (d 2), .ref (d 3), .int (nI kn), .ref (d 4), .int (nI ln), .int th, .ref (d 5), .int (nI tm), .ref (d 6), .int (nI kp), .int (nI pl), .int wr])), ((d 4), .inl (G.2.1 0, 60, .inl t9))]) [0, 1] (by decide) rfl
        exact z_iret hx hb hr rfl hlocks () hP9 hD9 hS (Nat.le_of_ble_eq_true rfl) (Nat.le_of_ble_eq_true rfl) dX6_isNext_40 (if_neg (fun z => f_c_4 z.2.2)).symm
      · have f_c_4 : lo ≤ (t9 pl) ∧ (t9 pl) ≤ hi := Decidable.byContradiction (fun z => c_4 (if_neg z))
        refine lv_iconst (v := 1) hx hb dX6_isNext_35 (by decide) ?_
        refine lv_goto (tgt := 40) hx hb dX6_isNext_36 (by decide) ?_
        have hP9 := hP.sub (ws' := [((d 0), .inr (6, [.ref (d 1), .ref (d 2), .ref (d 3), .int (nI kn), .ref (d 4), .int (nI ln), .int th, .ref (d 5), .int (nI tm), .ref (d 6), .int (nI kp), .int (nI pl), .int wr])), ((d 4), .inl (G.2.1 0, 60, .inl t9))]) [0, 1] rfl
        have hD9 := hD.sub (ws' := [((d 0), .inr (6, [.ref (d 1), .ref (d 2), .ref (d 3), .int (nI kn), .ref (d 4), .int (nI ln), .int th, .ref (d 5), .int (nI tm), .ref (d 6), .int (nI kp), .int (nI pl), .int wr])), ((d 4), .inl (G.2.1 0, 60, .inl t9))]) [0, 1] (by decide) rfl
        exact z_iret hx hb hr rfl hlocks () hP9 hD9 hS (Nat.le_of_ble_eq_true rfl) (Nat.le_of_ble_eq_true rfl) dX6_isNext_40 (if_pos ⟨c_1, hpl, f_c_4.1, f_c_4.2⟩).symm
end
