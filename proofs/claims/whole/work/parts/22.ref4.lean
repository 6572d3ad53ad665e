section
theorem zw_X6_accept_f7 : Cond.fieldLink RX6 7 "LightReceiverModel" "s" "[I" ∈ wsX6_accept := by decide +kernel
theorem zi_X6_accept_X6 : ∀ w ∈ wsX60, w ∈ wsX6_accept := fun _ h => List.mem_cons_of_mem _ (List.mem_append_right _ h)
set_option maxHeartbeats 1000000 in
set_option maxRecDepth 100000 in
theorem c_X6_accept (l : Launch) (G : zG) (sz : Nat) (d : Nat → Nat) (kn ln tm kp pl : Nat) (th wr : Int32) (s9 : zF) (c7 c9 : Nat) (hc7 : c7 < 16) (hc9 : c9 < 16) (hcr : 0 ≤ s9 3 → s9 3 = nI c7) (t9 : Int32) : zMi l yX6_accept wsX6_accept ({ frames := 1, cells := 0, slots := 0, locals := 20 } : Room) [.ref (d 0), .int (nI c9), .int t9] G [((d 0), .inr (6, [.ref (d 1), .ref (d 2), .ref (d 3), .int (nI kn), .ref (d 4), .int (nI ln), .int th, .ref (d 5), .int (nI tm), .ref (d 6), .int (nI kp), .int (nI pl), .int wr])), ((d 1), .inl (G.2.1 0, 80, .inl s9))] (fun (v : Int32) (u : zF) => (v, u) = acR s9 c9 t9 c7) (fun u => [((d 0), .inr (6, [.ref (d 1), .ref (d 2), .ref (d 3), .int (nI kn), .ref (d 4), .int (nI ln), .int th, .ref (d 5), .int (nI tm), .ref (d 6), .int (nI kp), .int (nI pl), .int wr])), ((d 1), .inl (G.2.1 0, 80, .inl u))]) sz 0 0 := by
  refine zMi_of (cc := cX6_accept) (maxL := 3) (ret := (some .int)) (by decide) rfl (Nat.le_of_ble_eq_true rfl) ?_
  intro p e s m args below meth c A ls hx hb hr hml hts hown hlocks hnm hK hP hD hAe hS hA hl hsz
  have hown : s.vm.findClass RX6 = some m.cls := hown
  have hP : va_P G.1 vwCl [((d 0), .inr (6, [.ref (d 1), .ref (d 2), .ref (d 3), .int (nI kn), .ref (d 4), .int (nI ln), .int th, .ref (d 5), .int (nI tm), .ref (d 6), .int (nI kp), .int (nI pl), .int wr])), ((d 1), .inl (G.2.1 0, 80, .inl s9))] s.heap := hP
  have hD : va_D A [((d 0), .inr (6, [.ref (d 1), .ref (d 2), .ref (d 3), .int (nI kn), .ref (d 4), .int (nI ln), .int th, .ref (d 5), .int (nI tm), .ref (d 6), .int (nI kp), .int (nI pl), .int wr])), ((d 1), .inl (G.2.1 0, 80, .inl s9))] := hD
  have hl : lv_has ls 3 [(0, .ref (d 0)), (1, .int (nI c9)), (2, .int t9)] := hl
  refine lv_aload_n hx hb dX6_accept_0 rfl (lv_at hl 0 rfl) ?_
  have hPc := hP.sub (ws' := [((d 0), .inr (6, [.ref (d 1), .ref (d 2), .ref (d 3), .int (nI kn), .ref (d 4), .int (nI ln), .int th, .ref (d 5), .int (nI tm), .ref (d 6), .int (nI kp), .int (nI pl), .int wr])), ((d 1), .inl (G.2.1 0, 80, .inl s9))]) [0, 1] rfl
  have hDc := hD.sub (ws' := [((d 0), .inr (6, [.ref (d 1), .ref (d 2), .ref (d 3), .int (nI kn), .ref (d 4), .int (nI ln), .int th, .ref (d 5), .int (nI tm), .ref (d 6), .int (nI kp), .int (nI pl), .int wr])), ((d 1), .inl (G.2.1 0, 80, .inl s9))]) [0, 1] (by decide) rfl
  refine z_calli (wr := []) (va_runV (As := []) (rest := []) ⟨hx, hb, hml, hown, hts⟩ (c_X6_isRemembered l G s.heap.size d kn ln tm kp pl th wr s9) (cwV 0 hts gX6_accept_X6_isRemembered rfl rfl rfl (by decide +kernel) ⟨(Nat.le_of_ble_eq_true rfl), (Nat.le_of_ble_eq_true rfl)⟩) (zV (ci := 6) (q0 := 0) hK hPc hDc rfl rfl) rfl rfl hl.1 rfl (lv_room (Nat.le_of_ble_eq_true rfl)) dX6_accept_1 ⟨(Nat.le_of_ble_eq_true rfl), (Nat.le_of_ble_eq_true rfl)⟩) hP hD hS hA [0, 1] [] rfl rfl (by decide) (by decide) (fun r_1 u_1 H locs hw_1 hP hD hS => ?_)
  subst hw_1
  have hP : va_P G.1 vwCl [((d 0), .inr (6, [.ref (d 1), .ref (d 2), .ref (d 3), .int (nI kn), .ref (d 4), .int (nI ln), .int th, .ref (d 5), .int (nI tm), .ref (d 6), .int (nI kp), .int (nI pl), .int wr])), ((d 1), .inl (G.2.1 0, 80, .inl s9))] H := hP
  have hD : va_D A [((d 0), .inr (6, [.ref (d 1), .ref (d 2), .ref (d 3), .int (nI kn), .ref (d 4), .int (nI ln), .int th, .ref (d 5), .int (nI tm), .ref (d 6), .int (nI kp), .int (nI pl), .int wr])), ((d 1), .inl (G.2.1 0, 80, .inl s9))] := hD
  refine lv_if_eq (tgt := 32) hx hb dX6_accept_4 (by decide) (fun c_2 => ?_) (fun c_2 => ?_)
  · have hrm : ¬ (rmR s9) := fun z => absurd c_2 (by rw [if_pos z]; decide)
    refine lv_aload_n hx hb dX6_accept_32 rfl (lv_at hl 0 rfl) ?_
    refine va_get (D := G.1) (ci := 6) (v := .ref (d 1)) (C := RX6) (T := TX6) (N := 13) hx hb hts zi_X6_accept_X6 hown hK.1 hP 0 rfl rfl 0 (by decide) (hts _ zw_X6_accept_f7) (fun _ h9 => h9) rfl dX6_accept_33 ?_
    refine lv_bipush (v := 6) hx hb dX6_accept_36 (by decide) ?_
    refine lv_iconst (v := 0) hx hb dX6_accept_38 (by decide) ?_
    refine z_iast (k := 6) hx hb hK.1 hP hD hS 1 0 rfl rfl rfl (by omega) (by omega) dX6_accept_39 (fun H locs hP hD hS => ?_)
    have hP : va_P G.1 vwCl [((d 0), .inr (6, [.ref (d 1), .ref (d 2), .ref (d 3), .int (nI kn), .ref (d 4), .int (nI ln), .int th, .ref (d 5), .int (nI tm), .ref (d 6), .int (nI kp), .int (nI pl), .int wr])), ((d 1), .inl (G.2.1 0, 80, .inl (upd s9 6 0)))] H := hP
    have hD : va_D A [((d 0), .inr (6, [.ref (d 1), .ref (d 2), .ref (d 3), .int (nI kn), .ref (d 4), .int (nI ln), .int th, .ref (d 5), .int (nI tm), .ref (d 6), .int (nI kp), .int (nI pl), .int wr])), ((d 1), .inl (G.2.1 0, 80, .inl (upd s9 6 0)))] := hD
    refine lv_aload_n hx hb dX6_accept_40 rfl (lv_at hl 0 rfl) ?_
    refine va_get (D := G.1) (ci := 6) (v := .ref (d 1)) (C := RX6) (T := TX6) (N := 13) hx hb hts zi_X6_accept_X6 hown hK.1 hP 0 rfl rfl 0 (by decide) (hts _ zw_X6_accept_f7) (fun _ h9 => h9) rfl dX6_accept_41 ?_
    refine lv_iconst (v := 3) hx hb dX6_accept_44 (by decide) ?_
    refine lv_iload_n hx hb dX6_accept_45 rfl (lv_at hl 1 rfl) ?_
    refine z_iast (k := 3) hx hb hK.1 hP hD hS 1 0 rfl rfl rfl (by omega) (by omega) dX6_accept_46 (fun H locs hP hD hS => ?_)
    have hP : va_P G.1 vwCl [((d 0), .inr (6, [.ref (d 1), .ref (d 2), .ref (d 3), .int (nI kn), .ref (d 4), .int (nI ln), .int th, .ref (d 5), .int (nI tm), .ref (d 6), .int (nI kp), .int (nI pl), .int wr])), ((d 1), .inl (G.2.1 0, 80, .inl (upd (upd s9 6 0) 3 (nI c9))))] H := hP
    have hD : va_D A [((d 0), .inr (6, [.ref (d 1), .ref (d 2), .ref (d 3), .int (nI kn), .ref (d 4), .int (nI ln), .int th, .ref (d 5), .int (nI tm), .ref (d 6), .int (nI kp), .int (nI pl), .int wr])), ((d 1), .inl (G.2.1 0, 80, .inl (upd (upd s9 6 0) 3 (nI c9))))] := hD
    refine lv_aload_n hx hb dX6_accept_47 rfl (lv_at hl 0 rfl) ?_
    refine va_get (D := G.1) (ci := 6) (v := .ref (d 1)) (C := RX6) (T := TX6) (N := 13) hx hb hts zi_X6_accept_X6 hown hK.1 hP 0 rfl rfl 0 (by decide) (hts _ zw_X6_accept_f7) (fun _ h9 => h9) rfl dX6_accept_48 ?_
    refine lv_iconst (v := 4) hx hb dX6_accept_51 (by decide) ?_
    refine lv_iload_n hx hb dX6_accept_52 rfl (lv_at hl 2 rfl) ?_
    refine z_iast (k := 4) hx hb hK.1 hP hD hS 1 0 rfl rfl rfl (by omega) (by omega) dX6_accept_53 (fun H locs hP hD hS => ?_)
    have hP : va_P G.1 vwCl [((d 0), .inr (6, [.ref (d 1), .ref (d 2), .ref (d 3), .int (nI kn), .ref (d 4), .int (nI ln), .int th, .ref (d 5), .int (nI tm), .ref (d 6), .int (nI kp), .int (nI pl), .int wr])), ((d 1), .inl (G.2.1 0, 80, .inl (upd (upd (upd s9 6 0) 3 (nI c9)) 4 t9)))] H := hP
    have hD : va_D A [((d 0), .inr (6, [.ref (d 1), .ref (d 2), .ref (d 3), .int (nI kn), .ref (d 4), .int (nI ln), .int th, .ref (d 5), .int (nI tm), .ref (d 6), .int (nI kp), .int (nI pl), .int wr])), ((d 1), .inl (G.2.1 0, 80, .inl (upd (upd (upd s9 6 0) 3 (nI c9)) 4 t9)))] := hD
    refine lv_aload_n hx hb dX6_accept_54 rfl (lv_at hl 0 rfl) ?_
    refine va_get (D := G.1) (ci := 6) (v := .ref (d 1)) (C := RX6) (T := TX6) (N := 13) hx hb hts zi_X6_accept_X6 hown hK.1 hP 0 rfl rfl 0 (by decide) (hts _ zw_X6_accept_f7) (fun _ h9 => h9) rfl dX6_accept_55 ?_
    refine lv_iconst (v := 5) hx hb dX6_accept_58 (by decide) ?_
    refine lv_iconst (v := 0) hx hb dX6_accept_59 (by decide) ?_
    refine z_iast (k := 5) hx hb hK.1 hP hD hS 1 0 rfl rfl rfl (by omega) (by omega) dX6_accept_60 (fun H locs hP hD hS => ?_)
    have hP : va_P G.1 vwCl [((d 0), .inr (6, [.ref (d 1), .ref (d 2), .ref (d 3), .int (nI kn), .ref (d 4), .int (nI ln), .int th, .ref (d 5), .int (nI tm), .ref (d 6), .int (nI kp), .int (nI pl), .int wr])), ((d 1), .inl (G.2.1 0, 80, .inl (upd (upd (upd (upd s9 6 0) 3 (nI c9)) 4 t9) 5 0)))] H := hP
    have hD : va_D A [((d 0), .inr (6, [.ref (d 1), .ref (d 2), .ref (d 3), .int (nI kn), .ref (d 4), .int (nI ln), .int th, .ref (d 5), .int (nI tm), .ref (d 6), .int (nI kp), .int (nI pl), .int wr])), ((d 1), .inl (G.2.1 0, 80, .inl (upd (upd (upd (upd s9 6 0) 3 (nI c9)) 4 t9) 5 0)))] := hD
    refine lv_aload_n hx hb dX6_accept_61 rfl (lv_at hl 0 rfl) ?_
    refine va_get (D := G.1) (ci := 6) (v := .ref (d 1)) (C := RX6) (T := TX6) (N := 13) hx hb hts zi_X6_accept_X6 hown hK.1 hP 0 rfl rfl 0 (by decide) (hts _ zw_X6_accept_f7) (fun _ h9 => h9) rfl dX6_accept_62 ?_
    refine lv_bipush (v := 7) hx hb dX6_accept_65 (by decide) ?_
    refine lv_dup2_11 hx hb dX6_accept_67 rfl rfl ?_
    refine z_iald (k := 7) hx hb hK.1 hP 1 0 rfl rfl rfl (by omega) (by omega) dX6_accept_68 ?_
    refine lv_iconst (v := 1) hx hb dX6_accept_69 (by decide) ?_
    refine lv_iadd hx hb dX6_accept_70 ?_
    refine z_iast (k := 7) hx hb hK.1 hP hD hS 1 0 rfl rfl rfl (by omega) (by omega) dX6_accept_71 (fun H locs hP hD hS => ?_)
    have hP : va_P G.1 vwCl [((d 0), .inr (6, [.ref (d 1), .ref (d 2), .ref (d 3), .int (nI kn), .ref (d 4), .int (nI ln), .int th, .ref (d 5), .int (nI tm), .ref (d 6), .int (nI kp), .int (nI pl), .int wr])), ((d 1), .inl (G.2.1 0, 80, .inl (upd (upd (upd (upd (upd s9 6 0) 3 (nI c9)) 4 t9) 5 0) 7 ((s9 7) + 1))))] H := hP
    have hD : va_D A [((d 0), .inr (6, [.ref (d 1), .ref (d 2), .ref (d 3), .int (nI kn), .ref (d 4), .int (nI ln), .int th, .ref (d 5), .int (nI tm), .ref (d 6), .int (nI kp), .int (nI pl), .int wr])), ((d 1), .inl (G.2.1 0, 80, .inl (upd (upd (upd (upd (upd s9 6 0) 3 (nI c9)) 4 t9) 5 0) 7 ((s9 7) + 1))))] := hD
    refine lv_aload_n hx hb dX6_accept_72 rfl (lv_at hl 0 rfl) ?_
    refine va_get (D := G.1) (ci := 6) (v := .ref (d 1)) (C := RX6) (T := TX6) (N := 13) hx hb hts zi_X6_accept_X6 hown hK.1 hP 0 rfl rfl 0 (by decide) (hts _ zw_X6_accept_f7) (fun _ h9 => h9) rfl dX6_accept_73 ?_
    refine lv_bipush (v := 32) hx hb dX6_accept_76 (by decide) ?_
    refine lv_iload_n hx hb dX6_accept_78 rfl (lv_at hl 1 rfl) ?_
    refine lv_iadd hx hb dX6_accept_79 ?_
    refine z_top (nI_add 32 c9) ?_
    refine lv_dup2_11 hx hb dX6_accept_80 rfl rfl ?_
    refine z_iald (k := (32 + c9)) hx hb hK.1 hP 1 0 rfl rfl rfl (by omega) (by omega) dX6_accept_81 ?_
    refine lv_aload_n hx hb dX6_accept_82 rfl (lv_at hl 0 rfl) ?_
    refine va_get (D := G.1) (ci := 6) (v := .ref (d 1)) (C := RX6) (T := TX6) (N := 13) hx hb hts zi_X6_accept_X6 hown hK.1 hP 0 rfl rfl 0 (by decide) (hts _ zw_X6_accept_f7) (fun _ h9 => h9) rfl dX6_accept_83 ?_
    refine lv_bipush (v := 16) hx hb dX6_accept_86 (by decide) ?_
    refine lv_iload_n hx hb dX6_accept_88 rfl (lv_at hl 1 rfl) ?_
    refine lv_iadd hx hb dX6_accept_89 ?_
    refine z_top (nI_add 16 c9) ?_
    refine z_iald (k := (16 + c9)) hx hb hK.1 hP 1 0 rfl rfl rfl (by omega) (by omega) dX6_accept_90 ?_
    refine lv_if_le (tgt := 98) hx hb dX6_accept_91 (by decide) (fun c_3 => ?_) (fun c_3 => ?_)
    · refine lv_iconst (v := 0) hx hb dX6_accept_98 (by decide) ?_
      refine lv_iadd hx hb dX6_accept_99 ?_
      refine z_iast (k := (32 + c9)) hx hb hK.1 hP hD hS 1 0 rfl rfl rfl (by omega) (by omega) dX6_accept_100 (fun H locs hP hD hS => ?_)
      have hP : va_P G.1 vwCl [((d 0), .inr (6, [.ref (d 1), .ref (d 2), .ref (d 3), .int (nI kn), .ref (d 4), .int (nI ln), .int th, .ref (d 5), .int (nI tm), .ref (d 6), .int (nI kp), .int (nI pl), .int wr])), ((d 1), .inl (G.2.1 0, 80, .inl (upd (upd (upd (upd (upd (upd s9 6 0) 3 (nI c9)) 4 t9) 5 0) 7 ((s9 7) + 1)) (32 + c9) (((upd (upd (upd (upd (upd s9 6 0) 3 (nI c9)) 4 t9) 5 0) 7 ((s9 7) + 1)) (32 + c9)) + 0))))] H := hP
      have hD : va_D A [((d 0), .inr (6, [.ref (d 1), .ref (d 2), .ref (d 3), .int (nI kn), .ref (d 4), .int (nI ln), .int th, .ref (d 5), .int (nI tm), .ref (d 6), .int (nI kp), .int (nI pl), .int wr])), ((d 1), .inl (G.2.1 0, 80, .inl (upd (upd (upd (upd (upd (upd s9 6 0) 3 (nI c9)) 4 t9) 5 0) 7 ((s9 7) + 1)) (32 + c9) (((upd (upd (upd (upd (upd s9 6 0) 3 (nI c9)) 4 t9) 5 0) 7 ((s9 7) + 1)) (32 + c9)) + 0))))] := hD
      refine lv_iconst (v := 0) hx hb dX6_accept_101 (by decide) ?_
      have hP9 := hP.sub (ws' := [((d 0), .inr (6, [.ref (d 1), .ref (d 2), .ref (d 3), .int (nI kn), .ref (d 4), .int (nI ln), .int th, .ref (d 5), .int (nI tm), .ref (d 6), .int (nI kp), .int (nI pl), .int wr])), ((d 1), .inl (G.2.1 0, 80, .inl (upd (upd (upd (upd (upd (upd s9 6 0) 3 (nI c9)) 4 t9) 5 0) 7 ((s9 7) + 1)) (32 + c9) (((upd (upd (upd (upd (upd s9 6 0) 3 (nI c9)) 4 t9) 5 0) 7 ((s9 7) + 1)) (32 + c9)) + 0))))]) [0, 1] rfl
      have hD9 := hD.sub (ws' := [((d 0), .inr (6, [.ref (d 1), .ref (d 2), .ref (d 3), .int (nI kn), .ref (d 4), .int (nI ln), .int th, .ref (d 5), .int (nI tm), .ref (d 6), .int (nI kp), .int (nI pl), .int wr])), ((d 1), .inl (G.2.1 0, 80, .inl (upd (upd (upd (upd (upd (upd s9 6 0) 3 (nI c9)) 4 t9) 5 0) 7 ((s9 7) + 1)) (32 + c9) (((upd (upd (upd (upd (upd s9 6 0) 3 (nI c9)) 4 t9) 5 0) 7 ((s9 7) + 1)) (32 + c9)) + 0))))]) [0, 1] (by decide) rfl
      exact z_iret hx hb hr rfl hlocks (upd (upd (upd (upd (upd (upd s9 6 0) 3 (nI c9)) 4 t9) 5 0) 7 ((s9 7) + 1)) (32 + c9) (((upd (upd (upd (upd (upd s9 6 0) 3 (nI c9)) 4 t9) 5 0) 7 ((s9 7) + 1)) (32 + c9)) + 0)) hP9 hD9 hS (Nat.le_of_ble_eq_true rfl) (Nat.le_of_ble_eq_true rfl) dX6_accept_102 (acR_new (fun z => hrm z.1) ((if_neg (Int32.not_lt.mpr c_3)).symm))
    · refine lv_iconst (v := 1) hx hb dX6_accept_94 (by decide) ?_
      refine lv_goto (tgt := 99) hx hb dX6_accept_95 (by decide) ?_
      refine lv_iadd hx hb dX6_accept_99 ?_
      refine z_iast (k := (32 + c9)) hx hb hK.1 hP hD hS 1 0 rfl rfl rfl (by omega) (by omega) dX6_accept_100 (fun H locs hP hD hS => ?_)
      have hP : va_P G.1 vwCl [((d 0), .inr (6, [.ref (d 1), .ref (d 2), .ref (d 3), .int (nI kn), .ref (d 4), .int (nI ln), .int th, .ref (d 5), .int (nI tm), .ref (d 6), .int (nI kp), .int (nI pl), .int wr])), ((d 1), .inl (G.2.1 0, 80, .inl (upd (upd (upd (upd (upd (upd s9 6 0) 3 (nI c9)) 4 t9) 5 0) 7 ((s9 7) + 1)) (32 + c9) (((upd (upd (upd (upd (upd s9 6 0) 3 (nI c9)) 4 t9) 5 0) 7 ((s9 7) + 1)) (32 + c9)) + 1))))] H := hP
      have hD : va_D A [((d 0), .inr (6, [.ref (d 1), .ref (d 2), .ref (d 3), .int (nI kn), .ref (d 4), .int (nI ln), .int th, .ref (d 5), .int (nI tm), .ref (d 6), .int (nI kp), .int (nI pl), .int wr])), ((d 1), .inl (G.2.1 0, 80, .inl (upd (upd (upd (upd (upd (upd s9 6 0) 3 (nI c9)) 4 t9) 5 0) 7 ((s9 7) + 1)) (32 + c9) (((upd (upd (upd (upd (upd s9 6 0) 3 (nI c9)) 4 t9) 5 0) 7 ((s9 7) + 1)) (32 + c9)) + 1))))] := hD
      refine lv_iconst (v := 0) hx hb dX6_accept_101 (by decide) ?_
      have hP9 := hP.sub (ws' := [((d 0), .inr (6, [.ref (d 1), .ref (d 2), .ref (d 3), .int (nI kn), .ref (d 4), .int (nI ln), .int th, .ref (d 5), .int (nI tm), .ref (d 6), .int (nI kp), .int (nI pl), .int wr])), ((d 1), .inl (G.2.1 0, 80, .inl (upd (upd (upd (upd (upd (upd s9 6 0) 3 (nI c9)) 4 t9) 5 0) 7 ((s9 7) + 1)) (32 + c9) (((upd (upd (upd (upd (upd s9 6 0) 3 (nI c9)) 4 t9) 5 0) 7 ((s9 7) + 1)) (32 + c9)) + 1))))]) [0, 1] rfl
      have hD9 := hD.sub (ws' := [((d 0), .inr (6, [.ref (d 1), .ref (d 2), .ref (d 3), .int (nI kn), .ref (d 4), .int (nI ln), .int th, .ref (d 5), .int (nI tm), .ref (d 6), .int (nI kp), .int (nI pl), .int wr])), ((d 1), .inl (G.2.1 0, 80, .inl (upd (upd (upd (upd (upd (upd s9 6 0) 3 (nI c9)) 4 t9) 5 0) 7 ((s9 7) + 1)) (32 + c9) (((upd (upd (upd (upd (upd s9 6 0) 3 (nI c9)) 4 t9) 5 0) 7 ((s9 7) + 1)) (32 + c9)) + 1))))]) [0, 1] (by decide) rfl
      exact z_iret hx hb hr rfl hlocks (upd (upd (upd (upd (upd (upd s9 6 0) 3 (nI c9)) 4 t9) 5 0) 7 ((s9 7) + 1)) (32 + c9) (((upd (upd (upd (upd (upd s9 6 0) 3 (nI c9)) 4 t9) 5 0) 7 ((s9 7) + 1)) (32 + c9)) + 1)) hP9 hD9 hS (Nat.le_of_ble_eq_true rfl) (Nat.le_of_ble_eq_true rfl) dX6_accept_102 (acR_new (fun z => hrm z.1) ((if_pos (Int32.not_le.mp c_3)).symm))
  · have hrm : rmR s9 := Decidable.byContradiction (fun z => c_2 (if_neg z))
    refine lv_aload_n hx hb dX6_accept_7 rfl (lv_at hl 0 rfl) ?_
    refine va_get (D := G.1) (ci := 6) (v := .ref (d 1)) (C := RX6) (T := TX6) (N := 13) hx hb hts zi_X6_accept_X6 hown hK.1 hP 0 rfl rfl 0 (by decide) (hts _ zw_X6_accept_f7) (fun _ h9 => h9) rfl dX6_accept_8 ?_
    refine lv_iconst (v := 3) hx hb dX6_accept_11 (by decide) ?_
    refine z_iald (k := 3) hx hb hK.1 hP 1 0 rfl rfl rfl (by omega) (by omega) dX6_accept_12 ?_
    refine lv_iload_n hx hb dX6_accept_13 rfl (lv_at hl 1 rfl) ?_
    refine lv_icmp_ne (tgt := 32) hx hb dX6_accept_14 (by decide) (fun c_4 => ?_) (fun c_4 => ?_)
    · refine lv_aload_n hx hb dX6_accept_32 rfl (lv_at hl 0 rfl) ?_
      refine va_get (D := G.1) (ci := 6) (v := .ref (d 1)) (C := RX6) (T := TX6) (N := 13) hx hb hts zi_X6_accept_X6 hown hK.1 hP 0 rfl rfl 0 (by decide) (hts _ zw_X6_accept_f7) (fun _ h9 => h9) rfl dX6_accept_33 ?_
      refine lv_bipush (v := 6) hx hb dX6_accept_36 (by decide) ?_
      refine lv_iconst (v := 0) hx hb dX6_accept_38 (by decide) ?_
      refine z_iast (k := 6) hx hb hK.1 hP hD hS 1 0 rfl rfl rfl (by omega) (by omega) dX6_accept_39 (fun H locs hP hD hS => ?_)
      have hP : va_P G.1 vwCl [((d 0), .inr (6, [.ref (d 1), .ref (d 2), .ref (d 3), .int (nI kn), .ref (d 4), .int (nI ln), .int th, .ref (d 5), .int (nI tm), .ref (d 6), .int (nI kp), .int (nI pl), .int wr])), ((d 1), .inl (G.2.1 0, 80, .inl (upd s9 6 0)))] H := hP
      have hD : va_D A [((d 0), .inr (6, [.ref (d 1), .ref (d 2), .ref (d 3), .int (nI kn), .ref (d 4), .int (nI ln), .int th, .ref (d 5), .int (nI tm), .ref (d 6), .int (nI kp), .int (nI pl), .int wr])), ((d 1), .inl (G.2.1 0, 80, .inl (upd s9 6 0)))] := hD
      refine lv_aload_n hx hb dX6_accept_40 rfl (lv_at hl 0 rfl) ?_
      refine va_get (D := G.1) (ci := 6) (v := .ref (d 1)) (C := RX6) (T := TX6) (N := 13) hx hb hts zi_X6_accept_X6 hown hK.1 hP 0 rfl rfl 0 (by decide) (hts _ zw_X6_accept_f7) (fun _ h9 => h9) rfl dX6_accept_41 ?_
      refine lv_iconst (v := 3) hx hb dX6_accept_44 (by decide) ?_
      refine lv_iload_n hx hb dX6_accept_45 rfl (lv_at hl 1 rfl) ?_
      refine z_iast (k := 3) hx hb hK.1 hP hD hS 1 0 rfl rfl rfl (by omega) (by omega) dX6_accept_46 (fun H locs hP hD hS => ?_)
      have hP : va_P G.1 vwCl [((d 0), .inr (6, [.ref (d 1), .ref (d 2), .ref (d 3), .int (nI kn), .ref (d 4), .int (nI ln), .int th, .ref (d 5), .int (nI tm), .ref (d 6), .int (nI kp), .int (nI pl), .int wr])), ((d 1), .inl (G.2.1 0, 80, .inl (upd (upd s9 6 0) 3 (nI c9))))] H := hP
      have hD : va_D A [((d 0), .inr (6, [.ref (d 1), .ref (d 2), .ref (d 3), .int (nI kn), .ref (d 4), .int (nI ln), .int th, .ref (d 5), .int (nI tm), .ref (d 6), .int (nI kp), .int (nI pl), .int wr])), ((d 1), .inl (G.2.1 0, 80, .inl (upd (upd s9 6 0) 3 (nI c9))))] := hD
      refine lv_aload_n hx hb dX6_accept_47 rfl (lv_at hl 0 rfl) ?_
      refine va_get (D := G.1) (ci := 6) (v := .ref (d 1)) (C := RX6) (T := TX6) (N := 13) hx hb hts zi_X6_accept_X6 hown hK.1 hP 0 rfl rfl 0 (by decide) (hts _ zw_X6_accept_f7) (fun _ h9 => h9) rfl dX6_accept_48 ?_
      refine lv_iconst (v := 4) hx hb dX6_accept_51 (by decide) ?_
      refine lv_iload_n hx hb dX6_accept_52 rfl (lv_at hl 2 rfl) ?_
      refine z_iast (k := 4) hx hb hK.1 hP hD hS 1 0 rfl rfl rfl (by omega) (by omega) dX6_accept_53 (fun H locs hP hD hS => ?_)
      have hP : va_P G.1 vwCl [((d 0), .inr (6, [.ref (d 1), .ref (d 2), .ref (d 3), .int (nI kn), .ref (d 4), .int (nI ln), .int th, .ref (d 5), .int (nI tm), .ref (d 6), .int (nI kp), .int (nI pl), .int wr])), ((d 1), .inl (G.2.1 0, 80, .inl (upd (upd (upd s9 6 0) 3 (nI c9)) 4 t9)))] H := hP
      have hD : va_D A [((d 0), .inr (6, [.ref (d 1), .ref (d 2), .ref (d 3), .int (nI kn), .ref (d 4), .int (nI ln), .int th, .ref (d 5), .int (nI tm), .ref (d 6), .int (nI kp), .int (nI pl), .int wr])), ((d 1), .inl (G.2.1 0, 80, .inl (upd (upd (upd s9 6 0) 3 (nI c9)) 4 t9)))] := hD
      refine lv_aload_n hx hb dX6_accept_54 rfl (lv_at hl 0 rfl) ?_
      refine va_get (D := G.1) (ci := 6) (v := .ref (d 1)) (C := RX6) (T := TX6) (N := 13) hx hb hts zi_X6_accept_X6 hown hK.1 hP 0 rfl rfl 0 (by decide) (hts _ zw_X6_accept_f7) (fun _ h9 => h9) rfl dX6_accept_55 ?_
      refine lv_iconst (v := 5) hx hb dX6_accept_58 (by decide) ?_
      refine lv_iconst (v := 0) hx hb dX6_accept_59 (by decide) ?_
      refine z_iast (k := 5) hx hb hK.1 hP hD hS 1 0 rfl rfl rfl (by omega) (by omega) dX6_accept_60 (fun H locs hP hD hS => ?_)
      have hP : va_P G.1 vwCl [((d 0), .inr (6, [.ref (d 1), .ref (d 2), .ref (d 3), .int (nI kn), .ref (d 4), .int (nI ln), .int th, .ref (d 5), .int (nI tm), .ref (d 6), .int (nI kp), .int (nI pl), .int wr])), ((d 1), .inl (G.2.1 0, 80, .inl (upd (upd (upd (upd s9 6 0) 3 (nI c9)) 4 t9) 5 0)))] H := hP
      have hD : va_D A [((d 0), .inr (6, [.ref (d 1), .ref (d 2), .ref (d 3), .int (nI kn), .ref (d 4), .int (nI ln), .int th, .ref (d 5), .int (nI tm), .ref (d 6), .int (nI kp), .int (nI pl), .int wr])), ((d 1), .inl (G.2.1 0, 80, .inl (upd (upd (upd (upd s9 6 0) 3 (nI c9)) 4 t9) 5 0)))] := hD
      refine lv_aload_n hx hb dX6_accept_61 rfl (lv_at hl 0 rfl) ?_
      refine va_get (D := G.1) (ci := 6) (v := .ref (d 1)) (C := RX6) (T := TX6) (N := 13) hx hb hts zi_X6_accept_X6 hown hK.1 hP 0 rfl rfl 0 (by decide) (hts _ zw_X6_accept_f7) (fun _ h9 => h9) rfl dX6_accept_62 ?_
      refine lv_bipush (v := 7) hx hb dX6_accept_65 (by decide) ?_
      refine lv_dup2_11 hx hb dX6_accept_67 rfl rfl ?_
      refine z_iald (k := 7) hx hb hK.1 hP 1 0 rfl rfl rfl (by omega) (by omega) dX6_accept_68 ?_
      refine lv_iconst (v := 1) hx hb dX6_accept_69 (by decide) ?_
      refine lv_iadd hx hb dX6_accept_70 ?_
      refine z_iast (k := 7) hx hb hK.1 hP hD hS 1 0 rfl rfl rfl (by omega) (by omega) dX6_accept_71 (fun H locs hP hD hS => ?_)
      have hP : va_P G.1 vwCl [((d 0), .inr (6, [.ref (d 1), .ref (d 2), .ref (d 3), .int (nI kn), .ref (d 4), .int (nI ln), .int th, .ref (d 5), .int (nI tm), .ref (d 6), .int (nI kp), .int (nI pl), .int wr])), ((d 1), .inl (G.2.1 0, 80, .inl (upd (upd (upd (upd (upd s9 6 0) 3 (nI c9)) 4 t9) 5 0) 7 ((s9 7) + 1))))] H := hP
      have hD : va_D A [((d 0), .inr (6, [.ref (d 1), .ref (d 2), .ref (d 3), .int (nI kn), .ref (d 4), .int (nI ln), .int th, .ref (d 5), .int (nI tm), .ref (d 6), .int (nI kp), .int (nI pl), .int wr])), ((d 1), .inl (G.2.1 0, 80, .inl (upd (upd (upd (upd (upd s9 6 0) 3 (nI c9)) 4 t9) 5 0) 7 ((s9 7) + 1))))] := hD
      refine lv_aload_n hx hb dX6_accept_72 rfl (lv_at hl 0 rfl) ?_
      refine va_get (D := G.1) (ci := 6) (v := .ref (d 1)) (C := RX6) (T := TX6) (N := 13) hx hb hts zi_X6_accept_X6 hown hK.1 hP 0 rfl rfl 0 (by decide) (hts _ zw_X6_accept_f7) (fun _ h9 => h9) rfl dX6_accept_73 ?_
      refine lv_bipush (v := 32) hx hb dX6_accept_76 (by decide) ?_
      refine lv_iload_n hx hb dX6_accept_78 rfl (lv_at hl 1 rfl) ?_
      refine lv_iadd hx hb dX6_accept_79 ?_
      refine z_top (nI_add 32 c9) ?_
      refine lv_dup2_11 hx hb dX6_accept_80 rfl rfl ?_
      refine z_iald (k := (32 + c9)) hx hb hK.1 hP 1 0 rfl rfl rfl (by omega) (by omega) dX6_accept_81 ?_
      refine lv_aload_n hx hb dX6_accept_82 rfl (lv_at hl 0 rfl) ?_
      refine va_get (D := G.1) (ci := 6) (v := .ref (d 1)) (C := RX6) (T := TX6) (N := 13) hx hb hts zi_X6_accept_X6 hown hK.1 hP 0 rfl rfl 0 (by decide) (hts _ zw_X6_accept_f7) (fun _ h9 => h9) rfl dX6_accept_83 ?_
      refine lv_bipush (v := 16) hx hb dX6_accept_86 (by decide) ?_
      refine lv_iload_n hx hb dX6_accept_88 rfl (lv_at hl 1 rfl) ?_
      refine lv_iadd hx hb dX6_accept_89 ?_
      refine z_top (nI_add 16 c9) ?_
      refine z_iald (k := (16 + c9)) hx hb hK.1 hP 1 0 rfl rfl rfl (by omega) (by omega) dX6_accept_90 ?_
      refine lv_if_le (tgt := 98) hx hb dX6_accept_91 (by decide) (fun c_5 => ?_) (fun c_5 => ?_)
      · refine lv_iconst (v := 0) hx hb dX6_accept_98 (by decide) ?_
        refine lv_iadd hx hb dX6_accept_99 ?_
        refine z_iast (k := (32 + c9)) hx hb hK.1 hP hD hS 1 0 rfl rfl rfl (by omega) (by omega) dX6_accept_100 (fun H locs hP hD hS => ?_)
        have hP : va_P G.1 vwCl [((d 0), .inr (6, [.ref (d 1), .ref (d 2), .ref (d 3), .int (nI kn), .ref (d 4), .int (nI ln), .int th, .ref (d 5), .int (nI tm), .ref (d 6), .int (nI kp), .int (nI pl), .int wr])), ((d 1), .inl (G.2.1 0, 80, .inl (upd (upd (upd (upd (upd (upd s9 6 0) 3 (nI c9)) 4 t9) 5 0) 7 ((s9 7) + 1)) (32 + c9) (((upd (upd (upd (upd (upd s9 6 0) 3 (nI c9)) 4 t9) 5 0) 7 ((s9 7) + 1)) (32 + c9)) + 0))))] H := hP
        have hD : va_D A [((d 0), .inr (6, [.ref (d 1), .ref (d 2), .ref (d 3), .int (nI kn), .ref (d 4), .int (nI ln), .int th, .ref (d 5), .int (nI tm), .ref (d 6), .int (nI kp), .int (nI pl), .int wr])), ((d 1), .inl (G.2.1 0, 80, .inl (upd (upd (upd (upd (upd (upd s9 6 0) 3 (nI c9)) 4 t9) 5 0) 7 ((s9 7) + 1)) (32 + c9) (((upd (upd (upd (upd (upd s9 6 0) 3 (nI c9)) 4 t9) 5 0) 7 ((s9 7) + 1)) (32 + c9)) + 0))))] := hD
        refine lv_iconst (v := 0) hx hb dX6_accept_101 (by decide) ?_
        have hP9 := hP.sub (ws' := [((d 0), .inr (6, [.ref (d 1), .ref (d 2), .ref (d 3), .int (nI kn), .ref (d 4), .int (nI ln), .int th, .ref (d 5), .int (nI tm), .ref (d 6), .int (nI kp), .int (nI pl), .int wr])), ((d 1), .inl (G.2.1 0, 80, .inl (upd (upd (upd (upd (upd (upd s9 6 0) 3 (nI c9)) 4 t9) 5 0) 7 ((s9 7) + 1)) (32 + c9) (((upd (upd (upd (upd (upd s9 6 0) 3 (nI c9)) 4 t9) 5 0) 7 ((s9 7) + 1)) (32 + c9)) + 0))))]) [0, 1] rfl
        have hD9 := hD.sub (ws' := [((d 0), .inr (6, [.ref (d 1), .ref (d 2), .ref (d 3), .int (nI kn), .ref (d 4), .int (nI ln), .int th, .ref (d 5), .int (nI tm), .ref (d 6), .int (nI kp), .int (nI pl), .int wr])), ((d 1), .inl (G.2.1 0, 80, .inl (upd (upd (upd (upd (upd (upd s9 6 0) 3 (nI c9)) 4 t9) 5 0) 7 ((s9 7) + 1)) (32 + c9) (((upd (upd (upd (upd (upd s9 6 0) 3 (nI c9)) 4 t9) 5 0) 7 ((s9 7) + 1)) (32 + c9)) + 0))))]) [0, 1] (by decide) rfl
        exact z_iret hx hb hr rfl hlocks (upd (upd (upd (upd (upd (upd s9 6 0) 3 (nI c9)) 4 t9) 5 0) 7 ((s9 7) + 1)) (32 + c9) (((upd (upd (upd (upd (upd s9 6 0) 3 (nI c9)) 4 t9) 5 0) 7 ((s9 7) + 1)) (32 + c9)) + 0)) hP9 hD9 hS (Nat.le_of_ble_eq_true rfl) (Nat.le_of_ble_eq_true rfl) dX6_accept_102 (acR_new (fun z => c_4 z.2.1) ((if_neg (Int32.not_lt.mpr c_5)).symm))
      · refine lv_iconst (v := 1) hx hb dX6_accept_94 (by decide) ?_
        refine lv_goto (tgt := 99) hx hb dX6_accept_95 (by decide) ?_
        refine lv_iadd hx hb dX6_accept_99 ?_
        refine z_iast (k := (32 + c9)) hx hb hK.1 hP hD hS 1 0 rfl rfl rfl (by omega) (by omega) dX6_accept_100 (fun H locs hP hD hS => ?_)
        have hP : va_P G.1 vwCl [((d 0), .inr (6, [.ref (d 1), .ref (d 2), .ref (d 3), .int (nI kn), .ref (d 4), .int (nI ln), .int th, .ref (d 5), .int (nI tm), .ref (d 6), .int (nI kp), .int (nI pl), .int wr])), ((d 1), .inl (G.2.1 0, 80, .inl (upd (upd (upd (upd (upd (upd s9 6 0) 3 (nI c9)) 4 t9) 5 0) 7 ((s9 7) + 1)) (32 + c9) (((upd (upd (upd (upd (upd s9 6 0) 3 (nI c9)) 4 t9) 5 0) 7 ((s9 7) + 1)) (32 + c9)) + 1))))] H := hP
        have hD : va_D A [((d 0), .inr (6, [.ref (d 1), .ref (d 2), .ref (d 3), .int (nI kn), .ref (d 4), .int (nI ln), .int th, .ref (d 5), .int (nI tm), .ref (d 6), .int (nI kp), .int (nI pl), .int wr])), ((d 1), .inl (G.2.1 0, 80, .inl (upd (upd (upd (upd (upd (upd s9 6 0) 3 (nI c9)) 4 t9) 5 0) 7 ((s9 7) + 1)) (32 + c9) (((upd (upd (upd (upd (upd s9 6 0) 3 (nI c9)) 4 t9) 5 0) 7 ((s9 7) + 1)) (32 + c9)) + 1))))] := hD
        refine lv_iconst (v := 0) hx hb dX6_accept_101 (by decide) ?_
        have hP9 := hP.sub (ws' := [((d 0), .inr (6, [.ref (d 1), .ref (d 2), .ref (d 3), .int (nI kn), .ref (d 4), .int (nI ln), .int th, .ref (d 5), .int (nI tm), .ref (d 6), .int (nI kp), .int (nI pl), .int wr])), ((d 1), .inl (G.2.1 0, 80, .inl (upd (upd (upd (upd (upd (upd s9 6 0) 3 (nI c9)) 4 t9) 5 0) 7 ((s9 7) + 1)) (32 + c9) (((upd (upd (upd (upd (upd s9 6 0) 3 (nI c9)) 4 t9) 5 0) 7 ((s9 7) + 1)) (32 + c9)) + 1))))]) [0, 1] rfl
        have hD9 := hD.sub (ws' := [((d 0), .inr (6, [.ref (d 1), .ref (d 2), .ref (d 3), .int (nI kn), .ref (d 4), .int (nI ln), .int th, .ref (d 5), .int (nI tm), .ref (d 6), .int (nI kp), .int (nI pl), .int wr])), ((d 1), .inl (G.2.1 0, 80, .inl (upd (upd (upd (upd (upd (upd s9 6 0) 3 (nI c9)) 4 t9) 5 0) 7 ((s9 7) + 1)) (32 + c9) (((upd (upd (upd (upd (upd s9 6 0) 3 (nI c9)) 4 t9) 5 0) 7 ((s9 7) + 1)) (32 + c9)) + 1))))]) [0, 1] (by decide) rfl
        exact z_iret hx hb hr rfl hlocks (upd (upd (upd (upd (upd (upd s9 6 0) 3 (nI c9)) 4 t9) 5 0) 7 ((s9 7) + 1)) (32 + c9) (((upd (upd (upd (upd (upd s9 6 0) 3 (nI c9)) 4 t9) 5 0) 7 ((s9 7) + 1)) (32 + c9)) + 1)) hP9 hD9 hS (Nat.le_of_ble_eq_true rfl) (Nat.le_of_ble_eq_true rfl) dX6_accept_102 (acR_new (fun z => c_4 z.2.1) ((if_pos (Int32.not_le.mp c_5)).symm))
    · refine lv_aload_n hx hb dX6_accept_17 rfl (lv_at hl 0 rfl) ?_
      refine va_get (D := G.1) (ci := 6) (v := .ref (d 1)) (C := RX6) (T := TX6) (N := 13) hx hb hts zi_X6_accept_X6 hown hK.1 hP 0 rfl rfl 0 (by decide) (hts _ zw_X6_accept_f7) (fun _ h9 => h9) rfl dX6_accept_18 ?_
      refine lv_iconst (v := 4) hx hb dX6_accept_21 (by decide) ?_
      refine z_iald (k := 4) hx hb hK.1 hP 1 0 rfl rfl rfl (by omega) (by omega) dX6_accept_22 ?_
      refine lv_iload_n hx hb dX6_accept_23 rfl (lv_at hl 2 rfl) ?_
      refine lv_icmp_ne (tgt := 32) hx hb dX6_accept_24 (by decide) (fun c_6 => ?_) (fun c_6 => ?_)
      · refine lv_aload_n hx hb dX6_accept_32 rfl (lv_at hl 0 rfl) ?_
        refine va_get (D := G.1) (ci := 6) (v := .ref (d 1)) (C := RX6) (T := TX6) (N := 13) hx hb hts zi_X6_accept_X6 hown hK.1 hP 0 rfl rfl 0 (by decide) (hts _ zw_X6_accept_f7) (fun _ h9 => h9) rfl dX6_accept_33 ?_
        refine lv_bipush (v := 6) hx hb dX6_accept_36 (by decide) ?_
        refine lv_iconst (v := 0) hx hb dX6_accept_38 (by decide) ?_
        refine z_iast (k := 6) hx hb hK.1 hP hD hS 1 0 rfl rfl rfl (by omega) (by omega) dX6_accept_39 (fun H locs hP hD hS => ?_)
        have hP : va_P G.1 vwCl [((d 0), .inr (6, [.ref (d 1), .ref (d 2), .ref (d 3), .int (nI kn), .ref (d 4), .int (nI ln), .int th, .ref (d 5), .int (nI tm), .ref (d 6), .int (nI kp), .int (nI pl), .int wr])), ((d 1), .inl (G.2.1 0, 80, .inl (upd s9 6 0)))] H := hP
        have hD : va_D A [((d 0), .inr (6, [.ref (d 1), .ref (d 2), .ref (d 3), .int (nI kn), .ref (d 4), .int (nI ln), .int th, .ref (d 5), .int (nI tm), .ref (d 6), .int (nI kp), .int (nI pl), .int wr])), ((d 1), .inl (G.2.1 0, 80, .inl (upd s9 6 0)))] := hD
        refine lv_aload_n hx hb dX6_accept_40 rfl (lv_at hl 0 rfl) ?_
        refine va_get (D := G.1) (ci := 6) (v := .ref (d 1)) (C := RX6) (T := TX6) (N := 13) hx hb hts zi_X6_accept_X6 hown hK.1 hP 0 rfl rfl 0 (by decide) (hts _ zw_X6_accept_f7) (fun _ h9 => h9) rfl dX6_accept_41 ?_
        refine lv_iconst (v := 3) hx hb dX6_accept_44 (by decide) ?_
        refine lv_iload_n hx hb dX6_accept_45 rfl (lv_at hl 1 rfl) ?_
        refine z_iast (k := 3) hx hb hK.1 hP hD hS 1 0 rfl rfl rfl (by omega) (by omega) dX6_accept_46 (fun H locs hP hD hS => ?_)
        have hP : va_P G.1 vwCl [((d 0), .inr (6, [.ref (d 1), .ref (d 2), .ref (d 3), .int (nI kn), .ref (d 4), .int (nI ln), .int th, .ref (d 5), .int (nI tm), .ref (d 6), .int (nI kp), .int (nI pl), .int wr])), ((d 1), .inl (G.2.1 0, 80, .inl (upd (upd s9 6 0) 3 (nI c9))))] H := hP
        have hD : va_D A [((d 0), .inr (6, [.ref (d 1), .ref (d 2), .ref (d 3), .int (nI kn), .ref (d 4), .int (nI ln), .int th, .ref (d 5), .int (nI tm), .ref (d 6), .int (nI kp), .int (nI pl), .int wr])), ((d 1), .inl (G.2.1 0, 80, .inl (upd (upd s9 6 0) 3 (nI c9))))] := hD
        refine lv_aload_n hx hb dX6_accept_47 rfl (lv_at hl 0 rfl) ?_
        refine va_get (D := G.1) (ci := 6) (v := .ref (d 1)) (C := RX6) (T := TX6) (N := 13) hx hb hts zi_X6_accept_X6 hown hK.1 hP 0 rfl rfl 0 (by decide) (hts _ zw_X6_accept_f7) (fun _ h9 => h9) rfl dX6_accept_48 ?_
        refine lv_iconst (v := 4) hx hb dX6_accept_51 (by decide) ?_
        refine lv_iload_n hx hb dX6_accept_52 rfl (lv_at hl 2 rfl) ?_
        refine z_iast (k := 4) hx hb hK.1 hP hD hS 1 0 rfl rfl rfl (by omega) (by omega) dX6_accept_53 (fun H locs hP hD hS => ?_)
        have hP : va_P G.1 vwCl [((d 0), .inr (6, [.ref (d 1), .ref (d 2), .ref (d 3), .int (nI kn), .ref (d 4), .int (nI ln), .int th, .ref (d 5), .int (nI tm), .ref (d 6), .int (nI kp), .int (nI pl), .int wr])), ((d 1), .inl (G.2.1 0, 80, .inl (upd (upd (upd s9 6 0) 3 (nI c9)) 4 t9)))] H := hP
        have hD : va_D A [((d 0), .inr (6, [.ref (d 1), .ref (d 2), .ref (d 3), .int (nI kn), .ref (d 4), .int (nI ln), .int th, .ref (d 5), .int (nI tm), .ref (d 6), .int (nI kp), .int (nI pl), .int wr])), ((d 1), .inl (G.2.1 0, 80, .inl (upd (upd (upd s9 6 0) 3 (nI c9)) 4 t9)))] := hD
        refine lv_aload_n hx hb dX6_accept_54 rfl (lv_at hl 0 rfl) ?_
        refine va_get (D := G.1) (ci := 6) (v := .ref (d 1)) (C := RX6) (T := TX6) (N := 13) hx hb hts zi_X6_accept_X6 hown hK.1 hP 0 rfl rfl 0 (by decide) (hts _ zw_X6_accept_f7) (fun _ h9 => h9) rfl dX6_accept_55 ?_
        refine lv_iconst (v := 5) hx hb dX6_accept_58 (by decide) ?_
        refine lv_iconst (v := 0) hx hb dX6_accept_59 (by decide) ?_
        refine z_iast (k := 5) hx hb hK.1 hP hD hS 1 0 rfl rfl rfl (by omega) (by omega) dX6_accept_60 (fun H locs hP hD hS => ?_)
        have hP : va_P G.1 vwCl [((d 0), .inr (6, [.ref (d 1), .ref (d 2), .ref (d 3), .int (nI kn), .ref (d 4), .int (nI ln), .int th, .ref (d 5), .int (nI tm), .ref (d 6), .int (nI kp), .int (nI pl), .int wr])), ((d 1), .inl (G.2.1 0, 80, .inl (upd (upd (upd (upd s9 6 0) 3 (nI c9)) 4 t9) 5 0)))] H := hP
        have hD : va_D A [((d 0), .inr (6, [.ref (d 1), .ref (d 2), .ref (d 3), .int (nI kn), .ref (d 4), .int (nI ln), .int th, .ref (d 5), .int (nI tm), .ref (d 6), .int (nI kp), .int (nI pl), .int wr])), ((d 1), .inl (G.2.1 0, 80, .inl (upd (upd (upd (upd s9 6 0) 3 (nI c9)) 4 t9) 5 0)))] := hD
        refine lv_aload_n hx hb dX6_accept_61 rfl (lv_at hl 0 rfl) ?_
        refine va_get (D := G.1) (ci := 6) (v := .ref (d 1)) (C := RX6) (T := TX6) (N := 13) hx hb hts zi_X6_accept_X6 hown hK.1 hP 0 rfl rfl 0 (by decide) (hts _ zw_X6_accept_f7) (fun _ h9 => h9) rfl dX6_accept_62 ?_
        refine lv_bipush (v := 7) hx hb dX6_accept_65 (by decide) ?_
        refine lv_dup2_11 hx hb dX6_accept_67 rfl rfl ?_
        refine z_iald (k := 7) hx hb hK.1 hP 1 0 rfl rfl rfl (by omega) (by omega) dX6_accept_68 ?_
        refine lv_iconst (v := 1) hx hb dX6_accept_69 (by decide) ?_
        refine lv_iadd hx hb dX6_accept_70 ?_
        refine z_iast (k := 7) hx hb hK.1 hP hD hS 1 0 rfl rfl rfl (by omega) (by omega) dX6_accept_71 (fun H locs hP hD hS => ?_)
        have hP : va_P G.1 vwCl [((d 0), .inr (6, [.ref (d 1), .ref (d 2), .ref (d 3), .int (nI kn), .ref (d 4), .int (nI ln), .int th, .ref (d 5), .int (nI tm), .ref (d 6), .int (nI kp), .int (nI pl), .int wr])), ((d 1), .inl (G.2.1 0, 80, .inl (upd (upd (upd (upd (upd s9 6 0) 3 (nI c9)) 4 t9) 5 0) 7 ((s9 7) + 1))))] H := hP
        have hD : va_D A [((d 0), .inr (6, [.ref (d 1), .ref (d 2), .ref (d 3), .int (nI kn), .ref (d 4), .int (nI ln), .int th, .ref (d 5), .int (nI tm), .ref (d 6), .int (nI kp), .int (nI pl), .int wr])), ((d 1), .inl (G.2.1 0, 80, .inl (upd (upd (upd (upd (upd s9 6 0) 3 (nI c9)) 4 t9) 5 0) 7 ((s9 7) + 1))))] := hD
        refine lv_aload_n hx hb dX6_accept_72 rfl (lv_at hl 0 rfl) ?_
        refine va_get (D := G.1) (ci := 6) (v := .ref (d 1)) (C := RX6) (T := TX6) (N := 13) hx hb hts zi_X6_accept_X6 hown hK.1 hP 0 rfl rfl 0 (by decide) (hts _ zw_X6_accept_f7) (fun _ h9 => h9) rfl dX6_accept_73 ?_
        refine lv_bipush (v := 32) hx hb dX6_accept_76 (by decide) ?_
        refine lv_iload_n hx hb dX6_accept_78 rfl (lv_at hl 1 rfl) ?_
        refine lv_iadd hx hb dX6_accept_79 ?_
        refine z_top (nI_add 32 c9) ?_
        refine lv_dup2_11 hx hb dX6_accept_80 rfl rfl ?_
        refine z_iald (k := (32 + c9)) hx hb hK.1 hP 1 0 rfl rfl rfl (by omega) (by omega) dX6_accept_81 ?_
        refine lv_aload_n hx hb dX6_accept_82 rfl (lv_at hl 0 rfl) ?_
        refine va_get (D := G.1) (ci := 6) (v := .ref (d 1)) (C := RX6) (T := TX6) (N := 13) hx hb hts zi_X6_accept_X6 hown hK.1 hP 0 rfl rfl 0 (by decide) (hts _ zw_X6_accept_f7) (fun _ h9 => h9) rfl dX6_accept_83 ?_
        refine lv_bipush (v := 16) hx hb dX6_accept_86 (by decide) ?_
        refine lv_iload_n hx hb dX6_accept_88 rfl (lv_at hl 1 rfl) ?_
        refine lv_iadd hx hb dX6_accept_89 ?_
        refine z_top (nI_add 16 c9) ?_
        refine z_iald (k := (16 + c9)) hx hb hK.1 hP 1 0 rfl rfl rfl (by omega) (by omega) dX6_accept_90 ?_
        refine lv_if_le (tgt := 98) hx hb dX6_accept_91 (by decide) (fun c_7 => ?_) (fun c_7 => ?_)
        · refine lv_iconst (v := 0) hx hb dX6_accept_98 (by decide) ?_
          refine lv_iadd hx hb dX6_accept_99 ?_
          refine z_iast (k := (32 + c9)) hx hb hK.1 hP hD hS 1 0 rfl rfl rfl (by omega) (by omega) dX6_accept_100 (fun H locs hP hD hS => ?_)
          have hP : va_P G.1 vwCl [((d 0), .inr (6, [.ref (d 1), .ref (d 2), .ref (d 3), .int (nI kn), .ref (d 4), .int (nI ln), .int th, .ref (d 5), .int (nI tm), .ref (d 6), .int (nI kp), .int (nI pl), .int wr])), ((d 1), .inl (G.2.1 0, 80, .inl (upd (upd (upd (upd (upd (upd s9 6 0) 3 (nI c9)) 4 t9) 5 0) 7 ((s9 7) + 1)) (32 + c9) (((upd (upd (upd (upd (upd s9 6 0) 3 (nI c9)) 4 t9) 5 0) 7 ((s9 7) + 1)) (32 + c9)) + 0))))] H := hP
          have hD : va_D A [((d 0), .inr (6, [.ref (d 1), .ref (d 2), .ref (d 3), .int (nI kn), .ref (d 4), .int (nI ln), .int th, .ref (d 5), .int (nI tm), .ref (d 6), .int (nI kp), .int (nI pl), .int wr])), ((d 1), .inl (G.2.1 0, 80, .inl (upd (upd (upd (upd (upd (upd s9 6 0) 3 (nI c9)) 4 t9) 5 0) 7 ((s9 7) + 1)) (32 + c9) (((upd (upd (upd (upd (upd s9 6 0) 3 (nI c9)) 4 t9) 5 0) 7 ((s9 7) + 1)) (32 + c9)) + 0))))] := hD
          refine lv_iconst (v := 0) hx hb dX6_accept_101 (by decide) ?_
          have hP9 := hP.sub (ws' := [((d 0), .inr (6, [.ref (d 1), .ref (d 2), .ref (d 3), .int (nI kn), .ref (d 4), .int (nI ln), .int th, .ref (d 5), .int (nI tm), .ref (d 6), .int (nI kp), .int (nI pl), .int wr])), ((d 1), .inl (G.2.1 0, 80, .inl (upd (upd (upd (upd (upd (upd s9 6 0) 3 (nI c9)) 4 t9) 5 0) 7 ((s9 7) + 1)) (32 + c9) (((upd (upd (upd (upd (upd s9 6 0) 3 (nI c9)) 4 t9) 5 0) 7 ((s9 7) + 1)) (32 + c9)) + 0))))]) [0, 1] rfl
          have hD9 := hD.sub (ws' := [((d 0), .inr (6, [.ref (d 1), .ref (d 2), .ref (d 3), .int (nI kn), .ref (d 4), .int (nI ln), .int th, .ref (d 5), .int (nI tm), .ref (d 6), .int (nI kp), .int (nI pl), .int wr])), ((d 1), .inl (G.2.1 0, 80, .inl (upd (upd (upd (upd (upd (upd s9 6 0) 3 (nI c9)) 4 t9) 5 0) 7 ((s9 7) + 1)) (32 + c9) (((upd (upd (upd (upd (upd s9 6 0) 3 (nI c9)) 4 t9) 5 0) 7 ((s9 7) + 1)) (32 + c9)) + 0))))]) [0, 1] (by decide) rfl
          exact z_iret hx hb hr rfl hlocks (upd (upd (upd (upd (upd (upd s9 6 0) 3 (nI c9)) 4 t9) 5 0) 7 ((s9 7) + 1)) (32 + c9) (((upd (upd (upd (upd (upd s9 6 0) 3 (nI c9)) 4 t9) 5 0) 7 ((s9 7) + 1)) (32 + c9)) + 0)) hP9 hD9 hS (Nat.le_of_ble_eq_true rfl) (Nat.le_of_ble_eq_true rfl) dX6_accept_102 (acR_new (fun z => c_6 z.2.2) ((if_neg (Int32.not_lt.mpr c_7)).symm))
        · refine lv_iconst (v := 1) hx hb dX6_accept_94 (by decide) ?_
          refine lv_goto (tgt := 99) hx hb dX6_accept_95 (by decide) ?_
          refine lv_iadd hx hb dX6_accept_99 ?_
          refine z_iast (k := (32 + c9)) hx hb hK.1 hP hD hS 1 0 rfl rfl rfl (by omega) (by omega) dX6_accept_100 (fun H locs hP hD hS => ?_)
          have hP : va_P G.1 vwCl [((d 0), .inr (6, [.ref (d 1), .ref (d 2), .ref (d 3), .int (nI kn), .ref (d 4), .int (nI ln), .int th, .ref (d 5), .int (nI tm), .ref (d 6), .int (nI kp), .int (nI pl), .int wr])), ((d 1), .inl (G.2.1 0, 80, .inl (upd (upd (upd (upd (upd (upd s9 6 0) 3 (nI c9)) 4 t9) 5 0) 7 ((s9 7) + 1)) (32 + c9) (((upd (upd (upd (upd (upd s9 6 0) 3 (nI c9)) 4 t9) 5 0) 7 ((s9 7) + 1)) (32 + c9)) + 1))))] H := hP
          have hD : va_D A [((d 0), .inr (6, [.ref (d 1), .ref (d 2), .ref (d 3), .int (nI kn), .ref (d 4), .int (nI ln), .int th, .ref (d 5), .int (nI tm), .ref (d 6), .int (nI kp), .int (nI pl), .int wr])), ((d 1), .inl (G.2.1 0, 80, .inl (upd (upd (upd (upd (upd (upd s9 6 0) 3 (nI c9)) 4 t9) 5 0) 7 ((s9 7) + 1)) (32 + c9) (((upd (upd (upd (upd (upd s9 6 0) 3 (nI c9)) 4 t9) 5 0) 7 ((s9 7) + 1)) (32 + c9)) + 1))))] := hD
          refine lv_iconst (v := 0) hx hb dX6_accept_101 (by decide) ?_
          have hP9 := hP.sub (ws' := [((d 0), .inr (6, [.ref (d 1), .ref (d 2), .ref (d 3), .int (nI kn), .ref (d 4), .int (nI ln), .int th, .ref (d 5), .int (nI tm), .ref (d 6), .int (nI kp), .int (nI pl), .int wr])), ((d 1), .inl (G.2.1 0, 80, .inl (upd (upd (upd (upd (upd (upd s9 6 0) 3 (nI c9)) 4 t9) 5 0) 7 ((s9 7) + 1)) (32 + c9) (((upd (upd (upd (upd (upd s9 6 0) 3 (nI c9)) 4 t9) 5 0) 7 ((s9 7) + 1)) (32 + c9)) + 1))))]) [0, 1] rfl
          have hD9 := hD.sub (ws' := [((d 0), .inr (6, [.ref (d 1), .ref (d 2), .ref (d 3), .int (nI kn), .ref (d 4), .int (nI ln), .int th, .ref (d 5), .int (nI tm), .ref (d 6), .int (nI kp), .int (nI pl), .int wr])), ((d 1), .inl (G.2.1 0, 80, .inl (upd (upd (upd (upd (upd (upd s9 6 0) 3 (nI c9)) 4 t9) 5 0) 7 ((s9 7) + 1)) (32 + c9) (((upd (upd (upd (upd (upd s9 6 0) 3 (nI c9)) 4 t9) 5 0) 7 ((s9 7) + 1)) (32 + c9)) + 1))))]) [0, 1] (by decide) rfl
          exact z_iret hx hb hr rfl hlocks (upd (upd (upd (upd (upd (upd s9 6 0) 3 (nI c9)) 4 t9) 5 0) 7 ((s9 7) + 1)) (32 + c9) (((upd (upd (upd (upd (upd s9 6 0) 3 (nI c9)) 4 t9) 5 0) 7 ((s9 7) + 1)) (32 + c9)) + 1)) hP9 hD9 hS (Nat.le_of_ble_eq_true rfl) (Nat.le_of_ble_eq_true rfl) dX6_accept_102 (acR_new (fun z => c_6 z.2.2) ((if_pos (Int32.not_le.mp c_7)).symm))
      · refine lv_aload_n hx hb dX6_accept_27 rfl (lv_at hl 0 rfl) ?_
        have hPc := hP.sub (ws' := [((d 0), .inr (6, [.ref (d 1), .ref (d 2), .ref (d 3), .int (nI kn), .ref (d 4), .int (nI ln), .int th, .ref (d 5), .int (nI tm), .ref (d 6), .int (nI kp), .int (nI pl), .int wr])), ((d 1), .inl (G.2.1 0, 80, .inl s9))]) [0, 1] rfl
        have hDc := hD.sub (ws' := [((d 0), .inr (6, [.ref (d 1), .ref (d 2), .ref (d 3), .int (nI kn), .ref (d 4), .int (nI ln), .int th, .ref (d 5), .int (nI tm), .ref (d 6), .int (nI kp), .int (nI pl), .int wr])), ((d 1), .inl (G.2.1 0, 80, .inl s9))]) [0, 1] (by decide) rfl
        refine z_calli (wr := []) (va_runV (As := []) (rest := []) ⟨hx, hb, hml, hown, hts⟩ (c_X6_hold0 l G H.size d kn ln tm kp pl th wr s9 c7 hc7 (hcr hrm.1)) (cwV 0 hts gX6_accept_X6_hold rfl rfl rfl (by decide +kernel) ⟨(Nat.le_of_ble_eq_true rfl), (Nat.le_of_ble_eq_true rfl)⟩) (zV (ci := 6) (q0 := 0) hK hPc hDc rfl rfl) rfl rfl hl.1 rfl (lv_room (Nat.le_of_ble_eq_true rfl)) dX6_accept_28 ⟨(Nat.le_of_ble_eq_true rfl), (Nat.le_of_ble_eq_true rfl)⟩) hP hD hS hA [0, 1] [] rfl rfl (by decide) (by decide) (fun r_8 u_8 H locs hw_8 hP hD hS => ?_)
        obtain ⟨hv_8, hu_8⟩ := hw_8
        subst hv_8
        have hP : va_P G.1 vwCl [((d 0), .inr (6, [.ref (d 1), .ref (d 2), .ref (d 3), .int (nI kn), .ref (d 4), .int (nI ln), .int th, .ref (d 5), .int (nI tm), .ref (d 6), .int (nI kp), .int (nI pl), .int wr])), ((d 1), .inl (G.2.1 0, 80, .inl u_8))] H := hP
        have hD : va_D A [((d 0), .inr (6, [.ref (d 1), .ref (d 2), .ref (d 3), .int (nI kn), .ref (d 4), .int (nI ln), .int th, .ref (d 5), .int (nI tm), .ref (d 6), .int (nI kp), .int (nI pl), .int wr])), ((d 1), .inl (G.2.1 0, 80, .inl u_8))] := hD
        have hP9 := hP.sub (ws' := [((d 0), .inr (6, [.ref (d 1), .ref (d 2), .ref (d 3), .int (nI kn), .ref (d 4), .int (nI ln), .int th, .ref (d 5), .int (nI tm), .ref (d 6), .int (nI kp), .int (nI pl), .int wr])), ((d 1), .inl (G.2.1 0, 80, .inl u_8))]) [0, 1] rfl
        have hD9 := hD.sub (ws' := [((d 0), .inr (6, [.ref (d 1), .ref (d 2), .ref (d 3), .int (nI kn), .ref (d 4), .int (nI ln), .int th, .ref (d 5), .int (nI tm), .ref (d 6), .int (nI kp), .int (nI pl), .int wr])), ((d 1), .inl (G.2.1 0, 80, .inl u_8))]) [0, 1] (by decide) rfl
        exact z_iret hx hb hr rfl hlocks u_8 hP9 hD9 hS (Nat.le_of_ble_eq_true rfl) (Nat.le_of_ble_eq_true rfl) dX6_accept_31 (by unfold acR; rw [if_pos ⟨hrm, c_4, c_6⟩, hu_8])
end
