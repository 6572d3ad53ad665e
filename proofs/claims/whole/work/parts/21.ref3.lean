section
theorem zw_X6_isRemembered_f7 : Cond.fieldLink RX6 7 "LightReceiverModel" "s" "[I" ∈ wsX6_isRemembered := by decide +kernel
theorem zi_X6_isRemembered_X6 : ∀ w ∈ wsX60, w ∈ wsX6_isRemembered := fun _ h => List.mem_cons_of_mem _ (List.mem_append_right _ h)
set_option maxHeartbeats 1000000 in
set_option maxRecDepth 100000 in
theorem c_X6_isRemembered (l : Launch) (G : zG) (sz : Nat) (d : Nat → Nat) (kn ln tm kp pl : Nat) (th wr : Int32) (s9 : zF) : zMi l yX6_isRemembered wsX6_isRemembered ({ frames := 0, cells := 0, slots := 0, locals := 0 } : Room) [.ref (d 0)] G [((d 0), .inr (6, [.ref (d 1), .ref (d 2), .ref (d 3), .int (nI kn), .ref (d 4), .int (nI ln), .int th, .ref (d 5), .int (nI tm), .ref (d 6), .int (nI kp), .int (nI pl), .int wr])), ((d 1), .inl (G.2.1 0, 80, .inl s9))] (fun (v : Int32) (_ : Unit) => v = if rmR s9 then 1 else 0) (fun _ => [((d 0), .inr (6, [.ref (d 1), .ref (d 2), .ref (d 3), .int (nI kn), .ref (d 4), .int (nI ln), .int th, .ref (d 5), .int (nI tm), .ref (d 6), .int (nI kp), .int (nI pl), .int wr])), ((d 1), .inl (G.2.1 0, 80, .inl s9))]) sz 0 0 := by
  refine zMi_of (cc := cX6_isRemembered) (maxL := 1) (ret := (some .boolean)) (by decide) rfl (Nat.le_of_ble_eq_true rfl) ?_
  intro p e s m args below meth c A ls hx hb hr hml hts hown hlocks hnm hK hP hD hAe hS hA hl hsz
  have hown : s.vm.findClass RX6 = some m.cls := hown
  have hP : va_P G.1 vwCl [((d 0), .inr (6, [.ref (d 1), .ref (d 2), .ref (d 3), .int (nI kn), .ref (d 4), .int (nI ln), .int th, .ref (d 5), .int (nI tm), .ref (d 6), .int (nI kp), .int (nI pl), .int wr])), ((d 1), .inl (G.2.1 0, 80, .inl s9))] s.heap := hP
  have hD : va_D A [((d 0), .inr (6, [.ref (d 1), .ref (d 2), .ref (d 3), .int (nI kn), .ref (d 4), .int (nI ln), .int th, .ref (d 5), .int (nI tm), .ref (d 6), .int (nI kp), .int (nI pl), .int wr])), ((d 1), .inl (G.2.1 0, 80, .inl s9))] := hD
  have hl : lv_has ls 1 [(0, .ref (d 0))] := hl
  refine lv_aload_n hx hb dX6_isRemembered_0 rfl (lv_at hl 0 rfl) ?_
  refine va_get (D := G.1) (ci := 6) (v := .ref (d 1)) (C := RX6) (T := TX6) (N := 13) hx hb hts zi_X6_isRemembered_X6 hown hK.1 hP 0 rfl rfl 0 (by decide) (hts _ zw_X6_isRemembered_f7) (fun _ h9 => h9) rfl dX6_isRemembered_1 ?_
  refine lv_iconst (v := 3) hx hb dX6_isRemembered_4 (by decide) ?_
  refine z_iald (k := 3) hx hb hK.1 hP 1 0 rfl rfl rfl (by omega) (by omega) dX6_isRemembered_5 ?_
  refine lv_if_lt (tgt := 25) hx hb dX6_isRemembered_6 (by decide) (fun c_1 => ?_) (fun c_1 => ?_)
  · refine lv_iconst (v := 0) hx hb dX6_isRemembered_25 (by decide) ?_
    have hP9 := hP.sub (ws' := [((d 0), .inr (6, [.ref (d 1), .ref (d 2), .ref (d 3), .int (nI kn), .ref (d 4), .int (nI ln), .int th, .ref (d 5), .int (nI tm), .ref (d 6), .int (nI kp), .int (nI pl), .int wr])), ((d 1), .inl (G.2.1 0, 80, .inl s9))]) [0, 1] rfl
    have hD9 := hD.sub (ws' := [((d 0), .inr (6, [.ref (d 1), .ref (d 2), .ref (d 3), .int (nI kn), .ref (d 4), .int (nI ln), .int th, .ref (d 5), .int (nI tm), .ref (d 6), .int (nI kp), .int (nI pl), .int wr])), ((d 1), .inl (G.2.1 0, 80, .inl s9))]) [0, 1] (by decide) rfl
    exact z_iret hx hb hr rfl hlocks () hP9 hD9 hS (Nat.le_of_ble_eq_true rfl) (Nat.le_of_ble_eq_true rfl) dX6_isRemembered_26 (by rw [if_neg (fun h => absurd c_1 (Int32.not_lt.mpr h.1))])
  · refine lv_aload_n hx hb dX6_isRemembered_9 rfl (lv_at hl 0 rfl) ?_
    refine va_get (D := G.1) (ci := 6) (v := .ref (d 1)) (C := RX6) (T := TX6) (N := 13) hx hb hts zi_X6_isRemembered_X6 hown hK.1 hP 0 rfl rfl 0 (by decide) (hts _ zw_X6_isRemembered_f7) (fun _ h9 => h9) rfl dX6_isRemembered_10 ?_
    refine lv_bipush (v := 6) hx hb dX6_isRemembered_13 (by decide) ?_
    refine z_iald (k := 6) hx hb hK.1 hP 1 0 rfl rfl rfl (by omega) (by omega) dX6_isRemembered_15 ?_
    refine lv_bipush (v := 60) hx hb dX6_isRemembered_16 (by decide) ?_
    refine lv_icmp_gt (tgt := 25) hx hb dX6_isRemembered_18 (by decide) (fun c_2 => ?_) (fun c_2 => ?_)
    · refine lv_iconst (v := 0) hx hb dX6_isRemembered_25 (by decide) ?_
      have hP9 := hP.sub (ws' := [((d 0), .inr (6, [.ref (d 1), .ref (d 2), .ref (d 3), .int (nI kn), .ref (d 4), .int (nI ln), .int th, .ref (d 5), .int (nI tm), .ref (d 6), .int (nI kp), .int (nI pl), .int wr])), ((d 1), .inl (G.2.1 0, 80, .inl s9))]) [0, 1] rfl
      have hD9 := hD.sub (ws' := [((d 0), .inr (6, [.ref (d 1), .ref (d 2), .ref (d 3), .int (nI kn), .ref (d 4), .int (nI ln), .int th, .ref (d 5), .int (nI tm), .ref (d 6), .int (nI kp), .int (nI pl), .int wr])), ((d 1), .inl (G.2.1 0, 80, .inl s9))]) [0, 1] (by decide) rfl
      exact z_iret hx hb hr rfl hlocks () hP9 hD9 hS (Nat.le_of_ble_eq_true rfl) (Nat.le_of_ble_eq_true rfl) dX6_isRemembered_26 (by rw [if_neg (fun h => absurd c_2 (Int32.not_lt.mpr h.2))])
    · refine lv_iconst (v := 1) hx hb dX6_isRemembered_21 (by decide) ?_
      refine lv_goto (tgt := 26) hx hb dX6_isRemembered_22 (by decide) ?_
      have hP9 := hP.sub (ws' := [((d 0), .inr (6, [.ref (d 1), .ref (d 2), .ref (d 3), .int (nI kn), .ref (d 4), .int (nI ln), .int th, .ref (d 5), .int (nI tm), .ref (d 6), .int (nI kp), .int (nI pl), .int wr])), ((d 1), .inl (G.2.1 0, 80, .inl s9))]) [0, 1] rfl
      have hD9 := hD.sub (ws' := [((d 0), .inr (6, [.ref (d 1), .ref (d 2), .ref (d 3), .int (nI kn), .ref (d 4), .int (nI ln), .int th, .ref (d 5), .int (nI tm), .ref (d 6), .int (nI kp), .int (nI pl), .int wr])), ((d 1), .inl (G.2.1 0, 80, .inl s9))]) [0, 1] (by decide) rfl
      exact z_iret hx hb hr rfl hlocks () hP9 hD9 hS (Nat.le_of_ble_eq_true rfl) (Nat.le_of_ble_eq_true rfl) dX6_isRemembered_26 (by rw [if_pos ⟨Int32.not_lt.mp c_1, Int32.not_lt.mp c_2⟩])
theorem zw_X6_refuse_f7 : Cond.fieldLink RX6 7 "LightReceiverModel" "s" "[I" ∈ wsX6_refuse := by decide +kernel
theorem zi_X6_refuse_X6 : ∀ w ∈ wsX60, w ∈ wsX6_refuse := fun _ h => List.mem_cons_of_mem _ (List.mem_append_right _ h)
set_option maxHeartbeats 1000000 in
set_option maxRecDepth 100000 in
theorem c_X6_refuse (l : Launch) (G : zG) (sz : Nat) (d : Nat → Nat) (kn ln tm kp pl : Nat) (th wr : Int32) (s9 : zF) (k9 : Nat) (hk9 : k9 < 7) : zMi l yX6_refuse wsX6_refuse ({ frames := 0, cells := 0, slots := 0, locals := 0 } : Room) [.ref (d 0), .int (nI k9)] G [((d 0), .inr (6, [.ref (d 1), .ref (d 2), .ref (d 3), .int (nI kn), .ref (d 4), .int (nI ln), .int th, .ref (d 5), .int (nI tm), .ref (d 6), .int (nI kp), .int (nI pl), .int wr])), ((d 1), .inl (G.2.1 0, 80, .inl s9))] (fun (v : Int32) (_ : Unit) => v = nI k9) (fun _ => [((d 0), .inr (6, [.ref (d 1), .ref (d 2), .ref (d 3), .int (nI kn), .ref (d 4), .int (nI ln), .int th, .ref (d 5), .int (nI tm), .ref (d 6), .int (nI kp), .int (nI pl), .int wr])), ((d 1), .inl (G.2.1 0, 80, .inl (rfF s9 k9)))]) sz 0 0 := by
  refine zMi_of (cc := cX6_refuse) (maxL := 2) (ret := (some .int)) (by decide) rfl (Nat.le_of_ble_eq_true rfl) ?_
  intro p e s m args below meth c A ls hx hb hr hml hts hown hlocks hnm hK hP hD hAe hS hA hl hsz
  have hown : s.vm.findClass RX6 = some m.cls := hown
  have hP : va_P G.1 vwCl [((d 0), .inr (6, [.ref (d 1), .ref (d 2), .ref (d 3), .int (nI kn), .ref (d 4), .int (nI ln), .int th, .ref (d 5), .int (nI tm), .ref (d 6), .int (nI kp), .int (nI pl), .int wr])), ((d 1), .inl (G.2.1 0, 80, .inl s9))] s.heap := hP
  have hD : va_D A [((d 0), .inr (6, [.ref (d 1), .ref (d 2), .ref (d 3), .int (nI kn), .ref (d 4), .int (nI ln), .int th, .ref (d 5), .int (nI tm), .ref (d 6), .int (nI kp), .int (nI pl), .int wr])), ((d 1), .inl (G.2.1 0, 80, .inl s9))] := hD
  have hl : lv_has ls 2 [(0, .ref (d 0)), (1, .int (nI k9))] := hl
  refine lv_aload_n hx hb dX6_refuse_0 rfl (lv_at hl 0 rfl) ?_
  refine va_get (D := G.1) (ci := 6) (v := .ref (d 1)) (C := RX6) (T := TX6) (N := 13) hx hb hts zi_X6_refuse_X6 hown hK.1 hP 0 rfl rfl 0 (by decide) (hts _ zw_X6_refuse_f7) (fun _ h9 => h9) rfl dX6_refuse_1 ?_
  refine lv_bipush (v := 9) hx hb dX6_refuse_4 (by decide) ?_
  refine lv_iload_n hx hb dX6_refuse_6 rfl (lv_at hl 1 rfl) ?_
  refine lv_iadd hx hb dX6_refuse_7 ?_
  refine z_top (nI_add 9 k9) ?_
  refine lv_dup2_11 hx hb dX6_refuse_8 rfl rfl ?_
  refine z_iald (k := (9 + k9)) hx hb hK.1 hP 1 0 rfl rfl rfl (by omega) (by omega) dX6_refuse_9 ?_
  refine lv_iconst (v := 1) hx hb dX6_refuse_10 (by decide) ?_
  refine lv_iadd hx hb dX6_refuse_11 ?_
  refine z_iast (k := (9 + k9)) hx hb hK.1 hP hD hS 1 0 rfl rfl rfl (by omega) (by omega) dX6_refuse_12 (fun H locs hP hD hS => ?_)
  have hP : va_P G.1 vwCl [((d 0), .inr (6, [.ref (d 1), .ref (d 2), .ref (d 3), .int (nI kn), .ref (d 4), .int (nI ln), .int th, .ref (d 5), .int (nI tm), .ref (d 6), .int (nI kp), .int (nI pl), .int wr])), ((d 1), .inl (G.2.1 0, 80, .inl (upd s9 (9 + k9) ((s9 (9 + k9)) + 1))))] H := hP
  have hD : va_D A [((d 0), .inr (6, [.ref (d 1), .ref (d 2), .ref (d 3), .int (nI kn), .ref (d 4), .int (nI ln), .int th, .ref (d 5), .int (nI tm), .ref (d 6), .int (nI kp), .int (nI pl), .int wr])), ((d 1), .inl (G.2.1 0, 80, .inl (upd s9 (9 + k9) ((s9 (9 + k9)) + 1))))] := hD
  refine lv_iload_n hx hb dX6_refuse_13 rfl (lv_at hl 1 rfl) ?_
  have hP9 := hP.sub (ws' := [((d 0), .inr (6, [.ref (d 1), .ref (d 2), .ref (d 3), .int (nI kn), .ref (d 4), .int (nI ln), .int th, .ref (d 5), .int (nI tm), .ref (d 6), .int (nI kp), .int (nI pl), .int wr])), ((d 1), .inl (G.2.1 0, 80, .inl (upd s9 (9 + k9) ((s9 (9 + k9)) + 1))))]) [0, 1] rfl
  have hD9 := hD.sub (ws' := [((d 0), .inr (6, [.ref (d 1), .ref (d 2), .ref (d 3), .int (nI kn), .ref (d 4), .int (nI ln), .int th, .ref (d 5), .int (nI tm), .ref (d 6), .int (nI kp), .int (nI pl), .int wr])), ((d 1), .inl (G.2.1 0, 80, .inl (upd s9 (9 + k9) ((s9 (9 + k9)) + 1))))]) [0, 1] (by decide) rfl
  exact z_iret hx hb hr rfl hlocks () hP9 hD9 hS (Nat.le_of_ble_eq_true rfl) (Nat.le_of_ble_eq_true rfl) dX6_refuse_14 rfl
theorem zw_X6_hold_f7 : Cond.fieldLink RX6 7 "LightReceiverModel" "s" "[I" ∈ wsX6_hold := by decide +kernel
theorem zi_X6_hold_X6 : ∀ w ∈ wsX60, w ∈ wsX6_hold := fun _ h => List.mem_cons_of_mem _ (List.mem_append_right _ h)
set_option maxHeartbeats 1000000 in
set_option maxRecDepth 100000 in
theorem c_X6_hold0 (l : Launch) (G : zG) (sz : Nat) (d : Nat → Nat) (kn ln tm kp pl : Nat) (th wr : Int32) (s9 : zF) (c7 : Nat) (hc7 : c7 < 16) (hc3 : s9 3 = nI c7) : zMi l yX6_hold wsX6_hold ({ frames := 0, cells := 0, slots := 0, locals := 0 } : Room) [.ref (d 0)] G [((d 0), .inr (6, [.ref (d 1), .ref (d 2), .ref (d 3), .int (nI kn), .ref (d 4), .int (nI ln), .int th, .ref (d 5), .int (nI tm), .ref (d 6), .int (nI kp), .int (nI pl), .int wr])), ((d 1), .inl (G.2.1 0, 80, .inl s9))] (fun (v : Int32) (u : zF) => v = -1 ∧ u = hoR s9 c7) (fun u => [((d 0), .inr (6, [.ref (d 1), .ref (d 2), .ref (d 3), .int (nI kn), .ref (d 4), .int (nI ln), .int th, .ref (d 5), .int (nI tm), .ref (d 6), .int (nI kp), .int (nI pl), .int wr])), ((d 1), .inl (G.2.1 0, 80, .inl u))]) sz 0 0 := by
  refine zMi_of (cc := cX6_hold) (maxL := 1) (ret := (some .int)) (by decide) rfl (Nat.le_of_ble_eq_true rfl) ?_
  intro p e s m args below meth c A ls hx hb hr hml hts hown hlocks hnm hK hP hD hAe hS hA hl hsz
  have hown : s.vm.findClass RX6 = some m.cls := hown
  have hP : va_P G.1 vwCl [((d 0), .inr (6, [.ref (d 1), .ref (d 2), .ref (d 3), .int (nI kn), .ref (d 4), .int (nI ln), .int th, .ref (d 5), .int (nI tm), .ref (d 6), .int (nI kp), .int (nI pl), .int wr])), ((d 1), .inl (G.2.1 0, 80, .inl s9))] s.heap := hP
  have hD : va_D A [((d 0), .inr (6, [.ref (d 1), .ref (d 2), .ref (d 3), .int (nI kn), .ref (d 4), .int (nI ln), .int th, .ref (d 5), .int (nI tm), .ref (d 6), .int (nI kp), .int (nI pl), .int wr])), ((d 1), .inl (G.2.1 0, 80, .inl s9))] := hD
  have hl : lv_has ls 1 [(0, .ref (d 0))] := hl
  refine lv_aload_n hx hb dX6_hold_0 rfl (lv_at hl 0 rfl) ?_
  refine va_get (D := G.1) (ci := 6) (v := .ref (d 1)) (C := RX6) (T := TX6) (N := 13) hx hb hts zi_X6_hold_X6 hown hK.1 hP 0 rfl rfl 0 (by decide) (hts _ zw_X6_hold_f7) (fun _ h9 => h9) rfl dX6_hold_1 ?_
  refine lv_bipush (v := 6) hx hb dX6_hold_4 (by decide) ?_
  refine lv_iconst (v := 0) hx hb dX6_hold_6 (by decide) ?_
  refine z_iast (k := 6) hx hb hK.1 hP hD hS 1 0 rfl rfl rfl (by omega) (by omega) dX6_hold_7 (fun H locs hP hD hS => ?_)
  have hP : va_P G.1 vwCl [((d 0), .inr (6, [.ref (d 1), .ref (d 2), .ref (d 3), .int (nI kn), .ref (d 4), .int (nI ln), .int th, .ref (d 5), .int (nI tm), .ref (d 6), .int (nI kp), .int (nI pl), .int wr])), ((d 1), .inl (G.2.1 0, 80, .inl (upd s9 6 0)))] H := hP
  have hD : va_D A [((d 0), .inr (6, [.ref (d 1), .ref (d 2), .ref (d 3), .int (nI kn), .ref (d 4), .int (nI ln), .int th, .ref (d 5), .int (nI tm), .ref (d 6), .int (nI kp), .int (nI pl), .int wr])), ((d 1), .inl (G.2.1 0, 80, .inl (upd s9 6 0)))] := hD
  refine lv_aload_n hx hb dX6_hold_8 rfl (lv_at hl 0 rfl) ?_
  refine va_get (D := G.1) (ci := 6) (v := .ref (d 1)) (C := RX6) (T := TX6) (N := 13) hx hb hts zi_X6_hold_X6 hown hK.1 hP 0 rfl rfl 0 (by decide) (hts _ zw_X6_hold_f7) (fun _ h9 => h9) rfl dX6_hold_9 ?_
  refine lv_iconst (v := 5) hx hb dX6_hold_12 (by decide) ?_
  refine lv_dup2_11 hx hb dX6_hold_13 rfl rfl ?_
  refine z_iald (k := 5) hx hb hK.1 hP 1 0 rfl rfl rfl (by omega) (by omega) dX6_hold_14 ?_
  refine lv_iconst (v := 1) hx hb dX6_hold_15 (by decide) ?_
  refine lv_iadd hx hb dX6_hold_16 ?_
  refine z_iast (k := 5) hx hb hK.1 hP hD hS 1 0 rfl rfl rfl (by omega) (by omega) dX6_hold_17 (fun H locs hP hD hS => ?_)
  have hP : va_P G.1 vwCl [((d 0), .inr (6, [.ref (d 1), .ref (d 2), .ref (d 3), .int (nI kn), .ref (d 4), .int (nI ln), .int th, .ref (d 5), .int (nI tm), .ref (d 6), .int (nI kp), .int (nI pl), .int wr])), ((d 1), .inl (G.2.1 0, 80, .inl (upd (upd s9 6 0) 5 ((s9 5) + 1))))] H := hP
  have hD : va_D A [((d 0), .inr (6, [.ref (d 1), .ref (d 2), .ref (d 3), .int (nI kn), .ref (d 4), .int (nI ln), .int th, .ref (d 5), .int (nI tm), .ref (d 6), .int (nI kp), .int (nI pl), .int wr])), ((d 1), .inl (G.2.1 0, 80, .inl (upd (upd s9 6 0) 5 ((s9 5) + 1))))] := hD
  refine lv_aload_n hx hb dX6_hold_18 rfl (lv_at hl 0 rfl) ?_
  refine va_get (D := G.1) (ci := 6) (v := .ref (d 1)) (C := RX6) (T := TX6) (N := 13) hx hb hts zi_X6_hold_X6 hown hK.1 hP 0 rfl rfl 0 (by decide) (hts _ zw_X6_hold_f7) (fun _ h9 => h9) rfl dX6_hold_19 ?_
  refine lv_bipush (v := 32) hx hb dX6_hold_22 (by decide) ?_
  refine lv_aload_n hx hb dX6_hold_24 rfl (lv_at hl 0 rfl) ?_
  refine va_get (D := G.1) (ci := 6) (v := .ref (d 1)) (C := RX6) (T := TX6) (N := 13) hx hb hts zi_X6_hold_X6 hown hK.1 hP 0 rfl rfl 0 (by decide) (hts _ zw_X6_hold_f7) (fun _ h9 => h9) rfl dX6_hold_25 ?_
  refine lv_iconst (v := 3) hx hb dX6_hold_28 (by decide) ?_
  refine z_iald (k := 3) hx hb hK.1 hP 1 0 rfl rfl rfl (by omega) (by omega) dX6_hold_29 ?_
  refine lv_iadd hx hb dX6_hold_30 ?_
  refine z_top (show _ = nI (32 + c7) from (congrArg (fun z => nI 32 + z) hc3).trans (nI_add 32 c7)) ?_
  refine lv_dup2_11 hx hb dX6_hold_31 rfl rfl ?_
  refine z_iald (k := (32 + c7)) hx hb hK.1 hP 1 0 rfl rfl rfl (by omega) (by omega) dX6_hold_32 ?_
  refine lv_aload_n hx hb dX6_hold_33 rfl (lv_at hl 0 rfl) ?_
  refine va_get (D := G.1) (ci := 6) (v := .ref (d 1)) (C := RX6) (T := TX6) (N := 13) hx hb hts zi_X6_hold_X6 hown hK.1 hP 0 rfl rfl 0 (by decide) (hts _ zw_X6_hold_f7) (fun _ h9 => h9) rfl dX6_hold_34 ?_
  refine lv_bipush (v := 16) hx hb dX6_hold_37 (by decide) ?_
  refine lv_aload_n hx hb dX6_hold_39 rfl (lv_at hl 0 rfl) ?_
  refine va_get (D := G.1) (ci := 6) (v := .ref (d 1)) (C := RX6) (T := TX6) (N := 13) hx hb hts zi_X6_hold_X6 hown hK.1 hP 0 rfl rfl 0 (by decide) (hts _ zw_X6_hold_f7) (fun _ h9 => h9) rfl dX6_hold_40 ?_
  refine lv_iconst (v := 3) hx hb dX6_hold_43 (by decide) ?_
  refine z_iald (k := 3) hx hb hK.1 hP 1 0 rfl rfl rfl (by omega) (by omega) dX6_hold_44 ?_
  refine lv_iadd hx hb dX6_hold_45 ?_
  refine z_top (show _ = nI (16 + c7) from (congrArg (fun z => nI 16 + z) hc3).trans (nI_add 16 c7)) ?_
  refine z_iald (k := (16 + c7)) hx hb hK.1 hP 1 0 rfl rfl rfl (by omega) (by omega) dX6_hold_46 ?_
  refine lv_iconst (v := 2) hx hb dX6_hold_47 (by decide) ?_
  refine lv_icmp_ne (tgt := 66) hx hb dX6_hold_48 (by decide) (fun c_1 => ?_) (fun c_1 => ?_)
  · refine lv_iconst (v := 0) hx hb dX6_hold_66 (by decide) ?_
    refine lv_iadd hx hb dX6_hold_67 ?_
    refine z_iast (k := (32 + c7)) hx hb hK.1 hP hD hS 1 0 rfl rfl rfl (by omega) (by omega) dX6_hold_68 (fun H locs hP hD hS => ?_)
    have hP : va_P G.1 vwCl [((d 0), .inr (6, [.ref (d 1), .ref (d 2), .ref (d 3), .int (nI kn), .ref (d 4), .int (nI ln), .int th, .ref (d 5), .int (nI tm), .ref (d 6), .int (nI kp), .int (nI pl), .int wr])), ((d 1), .inl (G.2.1 0, 80, .inl (upd (upd (upd s9 6 0) 5 ((s9 5) + 1)) (32 + c7) (((upd (upd s9 6 0) 5 ((s9 5) + 1)) (32 + c7)) + 0))))] H := hP
    have hD : va_D A [((d 0), .inr (6, [.ref (d 1), .ref (d 2), .ref (d 3), .int (nI kn), .ref (d 4), .int (nI ln), .int th, .ref (d 5), .int (nI tm), .ref (d 6), .int (nI kp), .int (nI pl), .int wr])), ((d 1), .inl (G.2.1 0, 80, .inl (upd (upd (upd s9 6 0) 5 ((s9 5) + 1)) (32 + c7) (((upd (upd s9 6 0) 5 ((s9 5) + 1)) (32 + c7)) + 0))))] := hD
    refine lv_iconst (v := -1) hx hb dX6_hold_69 (by decide) ?_
    have hP9 := hP.sub (ws' := [((d 0), .inr (6, [.ref (d 1), .ref (d 2), .ref (d 3), .int (nI kn), .ref (d 4), .int (nI ln), .int th, .ref (d 5), .int (nI tm), .ref (d 6), .int (nI kp), .int (nI pl), .int wr])), ((d 1), .inl (G.2.1 0, 80, .inl (upd (upd (upd s9 6 0) 5 ((s9 5) + 1)) (32 + c7) (((upd (upd s9 6 0) 5 ((s9 5) + 1)) (32 + c7)) + 0))))]) [0, 1] rfl
    have hD9 := hD.sub (ws' := [((d 0), .inr (6, [.ref (d 1), .ref (d 2), .ref (d 3), .int (nI kn), .ref (d 4), .int (nI ln), .int th, .ref (d 5), .int (nI tm), .ref (d 6), .int (nI kp), .int (nI pl), .int wr])), ((d 1), .inl (G.2.1 0, 80, .inl (upd (upd (upd s9 6 0) 5 ((s9 5) + 1)) (32 + c7) (((upd (upd s9 6 0) 5 ((s9 5) + 1)) (32 + c7)) + 0))))]) [0, 1] (by decide) rfl
    exact z_iret hx hb hr rfl hlocks (upd (upd (upd s9 6 0) 5 ((s9 5) + 1)) (32 + c7) (((upd (upd s9 6 0) 5 ((s9 5) + 1)) (32 + c7)) + 0)) hP9 hD9 hS (Nat.le_of_ble_eq_true rfl) (Nat.le_of_ble_eq_true rfl) dX6_hold_70 ⟨rfl, congrArg (fun z => upd (upd (upd s9 6 0) 5 (s9 5 + 1)) (32 + c7) ((upd (upd s9 6 0) 5 (s9 5 + 1)) (32 + c7) + z)) ((if_neg (fun z => c_1 z.1)).symm)⟩
  · refine lv_aload_n hx hb dX6_hold_51 rfl (lv_at hl 0 rfl) ?_
    refine va_get (D := G.1) (ci := 6) (v := .ref (d 1)) (C := RX6) (T := TX6) (N := 13) hx hb hts zi_X6_hold_X6 hown hK.1 hP 0 rfl rfl 0 (by decide) (hts _ zw_X6_hold_f7) (fun _ h9 => h9) rfl dX6_hold_52 ?_
    refine lv_iconst (v := 5) hx hb dX6_hold_55 (by decide) ?_
    refine z_iald (k := 5) hx hb hK.1 hP 1 0 rfl rfl rfl (by omega) (by omega) dX6_hold_56 ?_
    refine lv_iconst (v := 2) hx hb dX6_hold_57 (by decide) ?_
    refine lv_irem hx hb dX6_hold_58 (by decide) ?_
    refine lv_if_ne (tgt := 66) hx hb dX6_hold_59 (by decide) (fun c_2 => ?_) (fun c_2 => ?_)
    · refine lv_iconst (v := 0) hx hb dX6_hold_66 (by decide) ?_
      refine lv_iadd hx hb dX6_hold_67 ?_
      refine z_iast (k := (32 + c7)) hx hb hK.1 hP hD hS 1 0 rfl rfl rfl (by omega) (by omega) dX6_hold_68 (fun H locs hP hD hS => ?_)
      have hP : va_P G.1 vwCl [((d 0), .inr (6, [.ref (d 1), .ref (d 2), .ref (d 3), .int (nI kn), .ref (d 4), .int (nI ln), .int th, .ref (d 5), .int (nI tm), .ref (d 6), .int (nI kp), .int (nI pl), .int wr])), ((d 1), .inl (G.2.1 0, 80, .inl (upd (upd (upd s9 6 0) 5 ((s9 5) + 1)) (32 + c7) (((upd (upd s9 6 0) 5 ((s9 5) + 1)) (32 + c7)) + 0))))] H := hP
      have hD : va_D A [((d 0), .inr (6, [.ref (d 1), .ref (d 2), .ref (d 3), .int (nI kn), .ref (d 4), .int (nI ln), .int th, .ref (d 5), .int (nI tm), .ref (d 6), .int (nI kp), .int (nI pl), .int wr])), ((d 1), .inl (G.2.1 0, 80, .inl (upd (upd (upd s9 6 0) 5 ((s9 5) + 1)) (32 + c7) (((upd (upd s9 6 0) 5 ((s9 5) + 1)) (32 + c7)) + 0))))] := hD
      refine lv_iconst (v := -1) hx hb dX6_hold_69 (by decide) ?_
      have hP9 := hP.sub (ws' := [((d 0), .inr (6, [.ref (d 1), .ref (d 2), .ref (d 3), .int (nI kn), .ref (d 4), .int (nI ln), .int th, .ref (d 5), .int (nI tm), .ref (d 6), .int (nI kp), .int (nI pl), .int wr])), ((d 1), .inl (G.2.1 0, 80, .inl (upd (upd (upd s9 6 0) 5 ((s9 5) + 1)) (32 + c7) (((upd (upd s9 6 0) 5 ((s9 5) + 1)) (32 + c7)) + 0))))]) [0, 1] rfl
      have hD9 := hD.sub (ws' := [((d 0), .inr (6, [.ref (d 1), .ref (d 2), .ref (d 3), .int (nI kn), .ref (d 4), .int (nI ln), .int th, .ref (d 5), .int (nI tm), .ref (d 6), .int (nI kp), .int (nI pl), .int wr])), ((d 1), .inl (G.2.1 0, 80, .inl (upd (upd (upd s9 6 0) 5 ((s9 5) + 1)) (32 + c7) (((upd (upd s9 6 0) 5 ((s9 5) + 1)) (32 + c7)) + 0))))]) [0, 1] (by decide) rfl
      exact z_iret hx hb hr rfl hlocks (upd (upd (upd s9 6 0) 5 ((s9 5) + 1)) (32 + c7) (((upd (upd s9 6 0) 5 ((s9 5) + 1)) (32 + c7)) + 0)) hP9 hD9 hS (Nat.le_of_ble_eq_true rfl) (Nat.le_of_ble_eq_true rfl) dX6_hold_70 ⟨rfl, congrArg (fun z => upd (upd (upd s9 6 0) 5 (s9 5 + 1)) (32 + c7) ((upd (upd s9 6 0) 5 (s9 5 + 1)) (32 + c7) + z)) ((if_neg (fun z => c_2 z.2)).symm)⟩
    · refine lv_iconst (v := 1) hx hb dX6_hold_62 (by decide) ?_
      refine lv_goto (tgt := 67) hx hb dX6_hold_63 (by decide) ?_
      refine lv_iadd hx hb dX6_hold_67 ?_
      refine z_iast (k := (32 + c7)) hx hb hK.1 hP hD hS 1 0 rfl rfl rfl (by omega) (by omega) dX6_hold_68 (fun H locs hP hD hS => ?_)
      have hP : va_P G.1 vwCl [((d 0), .inr (6, [.ref (d 1), .ref (d 2), .ref (d 3), .int (nI kn), .ref (d 4), .int (nI ln), .int th, .ref (d 5), .int (nI tm), .ref (d 6), .int (nI kp), .int (nI pl), .int wr])), ((d 1), .inl (G.2.1 0, 80, .inl (upd (upd (upd s9 6 0) 5 ((s9 5) + 1)) (32 + c7) (((upd (upd s9 6 0) 5 ((s9 5) + 1)) (32 + c7)) + 1))))] H := hP
      have hD : va_D A [((d 0), .inr (6, [.ref (d 1), .ref (d 2), .ref (d 3), .int (nI kn), .ref (d 4), .int (nI ln), .int th, .ref (d 5), .int (nI tm), .ref (d 6), .int (nI kp), .int (nI pl), .int wr])), ((d 1), .inl (G.2.1 0, 80, .inl (upd (upd (upd s9 6 0) 5 ((s9 5) + 1)) (32 + c7) (((upd (upd s9 6 0) 5 ((s9 5) + 1)) (32 + c7)) + 1))))] := hD
      refine lv_iconst (v := -1) hx hb dX6_hold_69 (by decide) ?_
      have hP9 := hP.sub (ws' := [((d 0), .inr (6, [.ref (d 1), .ref (d 2), .ref (d 3), .int (nI kn), .ref (d 4), .int (nI ln), .int th, .ref (d 5), .int (nI tm), .ref (d 6), .int (nI kp), .int (nI pl), .int wr])), ((d 1), .inl (G.2.1 0, 80, .inl (upd (upd (upd s9 6 0) 5 ((s9 5) + 1)) (32 + c7) (((upd (upd s9 6 0) 5 ((s9 5) + 1)) (32 + c7)) + 1))))]) [0, 1] rfl
      have hD9 := hD.sub (ws' := [((d 0), .inr (6, [.ref (d 1), .ref (d 2), .ref (d 3), .int (nI kn), .ref (d 4), .int (nI ln), .int th, .ref (d 5), .int (nI tm), .ref (d 6), .int (nI kp), .int (nI pl), .int wr])), ((d 1), .inl (G.2.1 0, 80, .inl (upd (upd (upd s9 6 0) 5 ((s9 5) + 1)) (32 + c7) (((upd (upd s9 6 0) 5 ((s9 5) + 1)) (32 + c7)) + 1))))]) [0, 1] (by decide) rfl
      exact z_iret hx hb hr rfl hlocks (upd (upd (upd s9 6 0) 5 ((s9 5) + 1)) (32 + c7) (((upd (upd s9 6 0) 5 ((s9 5) + 1)) (32 + c7)) + 1)) hP9 hD9 hS (Nat.le_of_ble_eq_true rfl) (Nat.le_of_ble_eq_true rfl) dX6_hold_70 ⟨rfl, congrArg (fun z => upd (upd (upd s9 6 0) 5 (s9 5 + 1)) (32 + c7) ((upd (upd s9 6 0) 5 (s9 5 + 1)) (32 + c7) + z)) ((if_pos ⟨c_1, c_2⟩).symm)⟩
end
