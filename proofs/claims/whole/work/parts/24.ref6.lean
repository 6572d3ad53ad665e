section
theorem zw_X6_get_f7 : Cond.fieldLink RX6 7 "LightReceiverModel" "s" "[I" ∈ wsX6_get := by decide +kernel
theorem zi_X6_get_X6 : ∀ w ∈ wsX60, w ∈ wsX6_get := fun _ h => List.mem_cons_of_mem _ (List.mem_append_right _ h)
set_option maxHeartbeats 1000000 in
set_option maxRecDepth 100000 in
theorem c_X6_get (l : Launch) (G : zG) (sz : Nat) (d : Nat → Nat) (kn ln tm kp pl : Nat) (th wr : Int32) (htm : tm ≤ 30) (s9 l9 f9 : zF) (st9 : Int32) (hlo9 : 0 ≤ (s9 0 * s9 1 / 20).toInt ∧ (s9 0 * s9 1 / 20).toInt ≤ 1000) (hli9 : ∀ j, j < tm → j % 2 = 0 → 0 ≤ (l9 j).toInt ∧ (l9 j).toInt ≤ 1000) (c7 : Nat) (hc7 : c7 < 16) (hcr : 0 ≤ s9 3 → s9 3 = nI c7) : zMi l yX6_get wsX6_get ({ frames := 3, cells := 0, slots := 0, locals := 67 } : Room) [.ref (d 0), .int st9] G [((d 0), .inr (6, [.ref (d 1), .ref (d 2), .ref (d 3), .int (nI kn), .ref (d 4), .int (nI ln), .int th, .ref (d 5), .int (nI tm), .ref (d 6), .int (nI kp), .int (nI pl), .int wr])), ((d 1), .inl (G.2.1 0, 80, .inl s9)), ((d 5), .inl (G.2.1 0, 30, .inl l9)), ((d 6), .inl (G.2.1 0, 30, .inl f9))] (fun (v : Int32) (u : zF × zL) => (v, u.1) = geR s9 c7 (LO l9 tm (s9 0) (s9 1) st9) ∧ u.2.2.2.1 ≤ 30) (fun u => [((d 0), .inr (6, [.ref (d 1), .ref (d 2), .ref (d 3), .int (nI kn), .ref (d 4), .int (nI ln), .int th, .ref (d 5), .int (nI tm), .ref (d 6), .int (nI u.2.2.2.1), .int (nI pl), .int wr])), ((d 1), .inl (G.2.1 0, 80, .inl u.1)), ((d 5), .inl (G.2.1 0, 30, .inl l9)), ((d 6), .inl (G.2.1 0, 30, .inl u.2.2.2.2))]) sz 0 0 := by
  refine zMi_of (cc := cX6_get) (maxL := 5) (ret := (some .int)) (by decide) rfl (Nat.le_of_ble_eq_true rfl) ?_
  intro p e s m args below meth c A ls hx hb hr hml hts hown hlocks hnm hK hP hD hAe hS hA hl hsz
  have hown : s.vm.findClass RX6 = some m.cls := hown
  have hP : va_P G.1 vwCl [((d 0), .inr (6, [.ref (d 1), .ref (d 2), .ref (d 3), .int (nI kn), .ref (d 4), .int (nI ln), .int th, .ref (d 5), .int (nI tm), .ref (d 6), .int (nI kp), .int (nI pl), .int wr])), ((d 1), .inl (G.2.1 0, 80, .inl s9)), ((d 5), .inl (G.2.1 0, 30, .inl l9)), ((d 6), .inl (G.2.1 0, 30, .inl f9))] s.heap := hP
  have hD : va_D A [((d 0), .inr (6, [.ref (d 1), .ref (d 2), .ref (d 3), .int (nI kn), .ref (d 4), .int (nI ln), .int th, .ref (d 5), .int (nI tm), .ref (d 6), .int (nI kp), .int (nI pl), .int wr])), ((d 1), .inl (G.2.1 0, 80, .inl s9)), ((d 5), .inl (G.2.1 0, 30, .inl l9)), ((d 6), .inl (G.2.1 0, 30, .inl f9))] := hD
  have hl : lv_has ls 5 [(0, .ref (d 0)), (1, .int st9)] := hl
  refine lv_aload_n hx hb dX6_get_0 rfl (lv_at hl 0 rfl) ?_
  refine lv_iload_n hx hb dX6_get_1 rfl (lv_at hl 1 rfl) ?_
  have hPc := hP.sub (ws' := [((d 0), .inr (6, [.ref (d 1), .ref (d 2), .ref (d 3), .int (nI kn), .ref (d 4), .int (nI ln), .int th, .ref (d 5), .int (nI tm), .ref (d 6), .int (nI kp), .int (nI pl), .int wr])), ((d 1), .inl (G.2.1 0, 80, .inl s9)), ((d 5), .inl (G.2.1 0, 30, .inl l9)), ((d 6), .inl (G.2.1 0, 30, .inl f9))]) [0, 1, 2, 3] rfl
  have hDc := hD.sub (ws' := [((d 0), .inr (6, [.ref (d 1), .ref (d 2), .ref (d 3), .int (nI kn), .ref (d 4), .int (nI ln), .int th, .ref (d 5), .int (nI tm), .ref (d 6), .int (nI kp), .int (nI pl), .int wr])), ((d 1), .inl (G.2.1 0, 80, .inl s9)), ((d 5), .inl (G.2.1 0, 30, .inl l9)), ((d 6), .inl (G.2.1 0, 30, .inl f9))]) [0, 1, 2, 3] (by decide) rfl
  refine z_calli (wr := []) (va_runV (As := [.int st9]) (rest := []) ⟨hx, hb, hml, hown, hts⟩ (c_X6_layLeft l G s.heap.size d kn ln tm kp pl th wr htm s9 l9 f9 st9 hlo9 hli9) (cwV 1 hts gX6_get_X6_layLeft rfl rfl rfl (by decide +kernel) ⟨(Nat.le_of_ble_eq_true rfl), (Nat.le_of_ble_eq_true rfl)⟩) (zV (ci := 6) (q0 := 0) hK hPc hDc rfl rfl) rfl rfl hl.1 rfl (lv_room (Nat.le_of_ble_eq_true rfl)) dX6_get_2 ⟨(Nat.le_of_ble_eq_true rfl), (Nat.le_of_ble_eq_true rfl)⟩) hP hD hS hA [0, 1, 2, 3] [] rfl rfl (by decide) (by decide) (fun r_1 u_1 H locs hw_1 hP hD hS => ?_)
  obtain ⟨q, rfl⟩ : ∃ z, z = u_1 := ⟨_, rfl⟩
  obtain ⟨hv_1, hq⟩ := hw_1
  subst hv_1
  have hLO := LO_of hq
  have hkp := lis_kept l9 (s9 0 * s9 1 / 20) (decide (st9 < 11 - s9 1)) f9 tm
  rw [← hq] at hkp
  have hP : va_P G.1 vwCl [((d 0), .inr (6, [.ref (d 1), .ref (d 2), .ref (d 3), .int (nI kn), .ref (d 4), .int (nI ln), .int th, .ref (d 5), .int (nI tm), .ref (d 6), .int (nI q.2.2.1), .int (nI pl), .int wr])), ((d 1), .inl (G.2.1 0, 80, .inl s9)), ((d 5), .inl (G.2.1 0, 30, .inl l9)), ((d 6), .inl (G.2.1 0, 30, .inl q.2.2.2))] H := hP
  have hD : va_D A [((d 0), .inr (6, [.ref (d 1), .ref (d 2), .ref (d 3), .int (nI kn), .ref (d 4), .int (nI ln), .int th, .ref (d 5), .int (nI tm), .ref (d 6), .int (nI q.2.2.1), .int (nI pl), .int wr])), ((d 1), .inl (G.2.1 0, 80, .inl s9)), ((d 5), .inl (G.2.1 0, 30, .inl l9)), ((d 6), .inl (G.2.1 0, 30, .inl q.2.2.2))] := hD
  refine lv_istore_n (lv' := [(2, .int q.2.1), (0, .ref (d 0)), (1, .int st9)]) hx hb dX6_get_5 rfl hl (by decide) rfl (fun ls hl => ?_)
  refine lv_aload_n hx hb dX6_get_6 rfl (lv_at hl 1 rfl) ?_
  have hPc := hP.sub (ws' := [((d 0), .inr (6, [.ref (d 1), .ref (d 2), .ref (d 3), .int (nI kn), .ref (d 4), .int (nI ln), .int th, .ref (d 5), .int (nI tm), .ref (d 6), .int (nI q.2.2.1), .int (nI pl), .int wr])), ((d 1), .inl (G.2.1 0, 80, .inl s9)), ((d 6), .inl (G.2.1 0, 30, .inl q.2.2.2))]) [0, 1, 3] rfl
  have hDc := hD.sub (ws' := [((d 0), .inr (6, [.ref (d 1), .ref (d 2), .ref (d 3), .int (nI kn), .ref (d 4), .int (nI ln), .int th, .ref (d 5), .int (nI tm), .ref (d 6), .int (nI q.2.2.1), .int (nI pl), .int wr])), ((d 1), .inl (G.2.1 0, 80, .inl s9)), ((d 6), .inl (G.2.1 0, 30, .inl q.2.2.2))]) [0, 1, 3] (by decide) rfl
  refine z_calli (wr := [((d 5), .inl (G.2.1 0, 30, .inl l9))]) (va_runV (As := []) (rest := []) ⟨hx, hb, hml, hown, hts⟩ (c_X6_decode l G H.size d kn ln tm q.2.2.1 pl th wr (by omega) (by omega) s9 q.2.2.2 c7 hc7 hcr) (cwV 0 hts gX6_get_X6_decode rfl rfl rfl (by decide +kernel) ⟨(Nat.le_of_ble_eq_true rfl), (Nat.le_of_ble_eq_true rfl)⟩) (zV (ci := 6) (q0 := 0) hK hPc hDc rfl rfl) rfl rfl hl.1 rfl (lv_room (Nat.le_of_ble_eq_true rfl)) dX6_get_7 ⟨(Nat.le_of_ble_eq_true rfl), (Nat.le_of_ble_eq_true rfl)⟩) hP hD hS hA [0, 1, 3] [2] rfl rfl (by decide) (by decide) (fun r_2 u_2 H locs hw_2 hP hD hS => ?_)
  obtain ⟨r9, rfl⟩ : ∃ z, z = r_2 := ⟨_, rfl⟩
  have hde : (r9, u_2) = deR s9 (LO l9 tm (s9 0) (s9 1) st9).2.1 (LO l9 tm (s9 0) (s9 1) st9).2.2 c7 := by rw [hLO]; exact hw_2
  have hP : va_P G.1 vwCl [((d 5), .inl (G.2.1 0, 30, .inl l9)), ((d 0), .inr (6, [.ref (d 1), .ref (d 2), .ref (d 3), .int (nI kn), .ref (d 4), .int (nI ln), .int th, .ref (d 5), .int (nI tm), .ref (d 6), .int (nI q.2.2.1), .int (nI pl), .int wr])), ((d 1), .inl (G.2.1 0, 80, .inl u_2)), ((d 6), .inl (G.2.1 0, 30, .inl q.2.2.2))] H := hP
  have hD : va_D A [((d 5), .inl (G.2.1 0, 30, .inl l9)), ((d 0), .inr (6, [.ref (d 1), .ref (d 2), .ref (d 3), .int (nI kn), .ref (d 4), .int (nI ln), .int th, .ref (d 5), .int (nI tm), .ref (d 6), .int (nI q.2.2.1), .int (nI pl), .int wr])), ((d 1), .inl (G.2.1 0, 80, .inl u_2)), ((d 6), .inl (G.2.1 0, 30, .inl q.2.2.2))] := hD
  refine lv_istore_n (lv' := [(3, .int r9), (2, .int q.2.1), (0, .ref (d 0)), (1, .int st9)]) hx hb dX6_get_10 rfl hl (by decide) rfl (fun ls hl => ?_)
  refine lv_aload_n hx hb dX6_get_11 rfl (lv_at hl 2 rfl) ?_
  refine va_get (D := G.1) (ci := 6) (v := .ref (d 1)) (C := RX6) (T := TX6) (N := 13) hx hb hts zi_X6_get_X6 hown hK.1 hP 1 rfl rfl 0 (by decide) (hts _ zw_X6_get_f7) (fun _ h9 => h9) rfl dX6_get_12 ?_
  refine lv_iconst (v := 1) hx hb dX6_get_15 (by decide) ?_
  refine z_iald (k := 1) hx hb hK.1 hP 2 0 rfl rfl rfl (by omega) (by omega) dX6_get_16 ?_
  refine lv_iconst (v := 1) hx hb dX6_get_17 (by decide) ?_
  refine lv_iadd hx hb dX6_get_18 ?_
  refine lv_bipush (v := 10) hx hb dX6_get_19 (by decide) ?_
  refine lv_aload_n hx hb dX6_get_21 rfl (lv_at hl 2 rfl) ?_
  refine va_get (D := G.1) (ci := 6) (v := .ref (d 1)) (C := RX6) (T := TX6) (N := 13) hx hb hts zi_X6_get_X6 hown hK.1 hP 1 rfl rfl 0 (by decide) (hts _ zw_X6_get_f7) (fun _ h9 => h9) rfl dX6_get_22 ?_
  refine lv_iconst (v := 0) hx hb dX6_get_25 (by decide) ?_
  refine z_iald (k := 0) hx hb hK.1 hP 2 0 rfl rfl rfl (by omega) (by omega) dX6_get_26 ?_
  refine lv_isub hx hb dX6_get_27 ?_
  refine lv_icmp_ge (tgt := 42) hx hb dX6_get_28 (by decide) (fun c_3 => ?_) (fun c_3 => ?_)
  · refine lv_bipush (v := 10) hx hb dX6_get_42 (by decide) ?_
    refine lv_aload_n hx hb dX6_get_44 rfl (lv_at hl 2 rfl) ?_
    refine va_get (D := G.1) (ci := 6) (v := .ref (d 1)) (C := RX6) (T := TX6) (N := 13) hx hb hts zi_X6_get_X6 hown hK.1 hP 1 rfl rfl 0 (by decide) (hts _ zw_X6_get_f7) (fun _ h9 => h9) rfl dX6_get_45 ?_
    refine lv_iconst (v := 0) hx hb dX6_get_48 (by decide) ?_
    refine z_iald (k := 0) hx hb hK.1 hP 2 0 rfl rfl rfl (by omega) (by omega) dX6_get_49 ?_
    refine lv_isub hx hb dX6_get_50 ?_
    refine lv_istore (lv' := [(4, .int (10 - (u_2 0))), (3, .int r9), (2, .int q.2.1), (0, .ref (d 0)), (1, .int st9)]) hx hb dX6_get_51 hl (by decide) rfl (fun ls hl => ?_)
    refine lv_aload_n hx hb dX6_get_53 rfl (lv_at hl 3 rfl) ?_
    refine va_get (D := G.1) (ci := 6) (v := .ref (d 1)) (C := RX6) (T := TX6) (N := 13) hx hb hts zi_X6_get_X6 hown hK.1 hP 1 rfl rfl 0 (by decide) (hts _ zw_X6_get_f7) (fun _ h9 => h9) rfl dX6_get_54 ?_
    refine lv_iconst (v := 1) hx hb dX6_get_57 (by decide) ?_
    refine lv_iload_n hx hb dX6_get_58 rfl (lv_at hl 2 rfl) ?_
    refine lv_if_ne (tgt := 67) hx hb dX6_get_59 (by decide) (fun c_4 => ?_) (fun c_4 => ?_)
    · refine lv_aload_n hx hb dX6_get_67 rfl (lv_at hl 3 rfl) ?_
      refine va_get (D := G.1) (ci := 6) (v := .ref (d 1)) (C := RX6) (T := TX6) (N := 13) hx hb hts zi_X6_get_X6 hown hK.1 hP 1 rfl rfl 0 (by decide) (hts _ zw_X6_get_f7) (fun _ h9 => h9) rfl dX6_get_68 ?_
      refine lv_iconst (v := 1) hx hb dX6_get_71 (by decide) ?_
      refine z_iald (k := 1) hx hb hK.1 hP 2 0 rfl rfl rfl (by omega) (by omega) dX6_get_72 ?_
      refine lv_iconst (v := 1) hx hb dX6_get_73 (by decide) ?_
      refine lv_icmp_le (tgt := 88) hx hb dX6_get_74 (by decide) (fun c_5 => ?_) (fun c_5 => ?_)
      · refine lv_iconst (v := 1) hx hb dX6_get_88 (by decide) ?_
        refine z_iast (k := 1) hx hb hK.1 hP hD hS 2 0 rfl rfl rfl (by omega) (by omega) dX6_get_89 (fun H locs hP hD hS => ?_)
        have hP : va_P G.1 vwCl [((d 5), .inl (G.2.1 0, 30, .inl l9)), ((d 0), .inr (6, [.ref (d 1), .ref (d 2), .ref (d 3), .int (nI kn), .ref (d 4), .int (nI ln), .int th, .ref (d 5), .int (nI tm), .ref (d 6), .int (nI q.2.2.1), .int (nI pl), .int wr])), ((d 1), .inl (G.2.1 0, 80, .inl (upd u_2 1 1))), ((d 6), .inl (G.2.1 0, 30, .inl q.2.2.2))] H := hP
        have hD : va_D A [((d 5), .inl (G.2.1 0, 30, .inl l9)), ((d 0), .inr (6, [.ref (d 1), .ref (d 2), .ref (d 3), .int (nI kn), .ref (d 4), .int (nI ln), .int th, .ref (d 5), .int (nI tm), .ref (d 6), .int (nI q.2.2.1), .int (nI pl), .int wr])), ((d 1), .inl (G.2.1 0, 80, .inl (upd u_2 1 1))), ((d 6), .inl (G.2.1 0, 30, .inl q.2.2.2))] := hD
        refine lv_aload_n hx hb dX6_get_90 rfl (lv_at hl 3 rfl) ?_
        refine va_get (D := G.1) (ci := 6) (v := .ref (d 1)) (C := RX6) (T := TX6) (N := 13) hx hb hts zi_X6_get_X6 hown hK.1 hP 1 rfl rfl 0 (by decide) (hts _ zw_X6_get_f7) (fun _ h9 => h9) rfl dX6_get_91 ?_
        refine lv_bipush (v := 8) hx hb dX6_get_94 (by decide) ?_
        refine lv_dup2_11 hx hb dX6_get_96 rfl rfl ?_
        refine z_iald (k := 8) hx hb hK.1 hP 2 0 rfl rfl rfl (by omega) (by omega) dX6_get_97 ?_
        refine lv_iconst (v := 1) hx hb dX6_get_98 (by decide) ?_
        refine lv_iadd hx hb dX6_get_99 ?_
        refine z_iast (k := 8) hx hb hK.1 hP hD hS 2 0 rfl rfl rfl (by omega) (by omega) dX6_get_100 (fun H locs hP hD hS => ?_)
        have hP : va_P G.1 vwCl [((d 5), .inl (G.2.1 0, 30, .inl l9)), ((d 0), .inr (6, [.ref (d 1), .ref (d 2), .ref (d 3), .int (nI kn), .ref (d 4), .int (nI ln), .int th, .ref (d 5), .int (nI tm), .ref (d 6), .int (nI q.2.2.1), .int (nI pl), .int wr])), ((d 1), .inl (G.2.1 0, 80, .inl (upd (upd u_2 1 1) 8 ((u_2 8) + 1)))), ((d 6), .inl (G.2.1 0, 30, .inl q.2.2.2))] H := hP
        have hD : va_D A [((d 5), .inl (G.2.1 0, 30, .inl l9)), ((d 0), .inr (6, [.ref (d 1), .ref (d 2), .ref (d 3), .int (nI kn), .ref (d 4), .int (nI ln), .int th, .ref (d 5), .int (nI tm), .ref (d 6), .int (nI q.2.2.1), .int (nI pl), .int wr])), ((d 1), .inl (G.2.1 0, 80, .inl (upd (upd u_2 1 1) 8 ((u_2 8) + 1)))), ((d 6), .inl (G.2.1 0, 30, .inl q.2.2.2))] := hD
        refine lv_iload_n hx hb dX6_get_101 rfl (lv_at hl 1 rfl) ?_
        have hP9 := hP.sub (ws' := [((d 0), .inr (6, [.ref (d 1), .ref (d 2), .ref (d 3), .int (nI kn), .ref (d 4), .int (nI ln), .int th, .ref (d 5), .int (nI tm), .ref (d 6), .int (nI q.2.2.1), .int (nI pl), .int wr])), ((d 1), .inl (G.2.1 0, 80, .inl (upd (upd u_2 1 1) 8 ((u_2 8) + 1)))), ((d 5), .inl (G.2.1 0, 30, .inl l9)), ((d 6), .inl (G.2.1 0, 30, .inl q.2.2.2))]) [1, 2, 0, 3] rfl
        have hD9 := hD.sub (ws' := [((d 0), .inr (6, [.ref (d 1), .ref (d 2), .ref (d 3), .int (nI kn), .ref (d 4), .int (nI ln), .int th, .ref (d 5), .int (nI tm), .ref (d 6), .int (nI q.2.2.1), .int (nI pl), .int wr])), ((d 1), .inl (G.2.1 0, 80, .inl (upd (upd u_2 1 1) 8 ((u_2 8) + 1)))), ((d 5), .inl (G.2.1 0, 30, .inl l9)), ((d 6), .inl (G.2.1 0, 30, .inl q.2.2.2))]) [1, 2, 0, 3] (by decide) rfl
        exact z_iret hx hb hr rfl hlocks ((upd (upd u_2 1 1) 8 ((u_2 8) + 1)), q) hP9 hD9 hS (Nat.le_of_ble_eq_true rfl) (Nat.le_of_ble_eq_true rfl) dX6_get_102 ⟨geR_of hde (by rw [hLO]; exact ((if_neg c_4).trans (if_neg (Int32.not_lt.mpr c_5))).symm), by show q.2.2.1 ≤ 30; omega⟩
      · refine lv_aload_n hx hb dX6_get_77 rfl (lv_at hl 3 rfl) ?_
        refine va_get (D := G.1) (ci := 6) (v := .ref (d 1)) (C := RX6) (T := TX6) (N := 13) hx hb hts zi_X6_get_X6 hown hK.1 hP 1 rfl rfl 0 (by decide) (hts _ zw_X6_get_f7) (fun _ h9 => h9) rfl dX6_get_78 ?_
        refine lv_iconst (v := 1) hx hb dX6_get_81 (by decide) ?_
        refine z_iald (k := 1) hx hb hK.1 hP 2 0 rfl rfl rfl (by omega) (by omega) dX6_get_82 ?_
        refine lv_iconst (v := 1) hx hb dX6_get_83 (by decide) ?_
        refine lv_isub hx hb dX6_get_84 ?_
        refine lv_goto (tgt := 89) hx hb dX6_get_85 (by decide) ?_
        refine z_iast (k := 1) hx hb hK.1 hP hD hS 2 0 rfl rfl rfl (by omega) (by omega) dX6_get_89 (fun H locs hP hD hS => ?_)
        have hP : va_P G.1 vwCl [((d 5), .inl (G.2.1 0, 30, .inl l9)), ((d 0), .inr (6, [.ref (d 1), .ref (d 2), .ref (d 3), .int (nI kn), .ref (d 4), .int (nI ln), .int th, .ref (d 5), .int (nI tm), .ref (d 6), .int (nI q.2.2.1), .int (nI pl), .int wr])), ((d 1), .inl (G.2.1 0, 80, .inl (upd u_2 1 ((u_2 1) - 1)))), ((d 6), .inl (G.2.1 0, 30, .inl q.2.2.2))] H := hP
        have hD : va_D A [((d 5), .inl (G.2.1 0, 30, .inl l9)), ((d 0), .inr (6, [.ref (d 1), .ref (d 2), .ref (d 3), .int (nI kn), .ref (d 4), .int (nI ln), .int th, .ref (d 5), .int (nI tm), .ref (d 6), .int (nI q.2.2.1), .int (nI pl), .int wr])), ((d 1), .inl (G.2.1 0, 80, .inl (upd u_2 1 ((u_2 1) - 1)))), ((d 6), .inl (G.2.1 0, 30, .inl q.2.2.2))] := hD
        refine lv_aload_n hx hb dX6_get_90 rfl (lv_at hl 3 rfl) ?_
        refine va_get (D := G.1) (ci := 6) (v := .ref (d 1)) (C := RX6) (T := TX6) (N := 13) hx hb hts zi_X6_get_X6 hown hK.1 hP 1 rfl rfl 0 (by decide) (hts _ zw_X6_get_f7) (fun _ h9 => h9) rfl dX6_get_91 ?_
        refine lv_bipush (v := 8) hx hb dX6_get_94 (by decide) ?_
        refine lv_dup2_11 hx hb dX6_get_96 rfl rfl ?_
        refine z_iald (k := 8) hx hb hK.1 hP 2 0 rfl rfl rfl (by omega) (by omega) dX6_get_97 ?_
        refine lv_iconst (v := 1) hx hb dX6_get_98 (by decide) ?_
        refine lv_iadd hx hb dX6_get_99 ?_
        refine z_iast (k := 8) hx hb hK.1 hP hD hS 2 0 rfl rfl rfl (by omega) (by omega) dX6_get_100 (fun H locs hP hD hS => ?_)
        have hP : va_P G.1 vwCl [((d 5), .inl (G.2.1 0, 30, .inl l9)), ((d 0), .inr (6, [.ref (d 1), .ref (d 2), .ref (d 3), .int (nI kn), .ref (d 4), .int (nI ln), .int th, .ref (d 5), .int (nI tm), .ref (d 6), .int (nI q.2.2.1), .int (nI pl), .int wr])), ((d 1), .inl (G.2.1 0, 80, .inl (upd (upd u_2 1 ((u_2 1) - 1)) 8 ((u_2 8) + 1)))), ((d 6), .inl (G.2.1 0, 30, .inl q.2.2.2))] H := hP
        have hD : va_D A [((d 5), .inl (G.2.1 0, 30, .inl l9)), ((d 0), .inr (6, [.ref (d 1), .ref (d 2), .ref (d 3), .int (nI kn), .ref (d 4), .int (nI ln), .int th, .ref (d 5), .int (nI tm), .ref (d 6), .int (nI q.2.2.1), .int (nI pl), .int wr])), ((d 1), .inl (G.2.1 0, 80, .inl (upd (upd u_2 1 ((u_2 1) - 1)) 8 ((u_2 8) + 1)))), ((d 6), .inl (G.2.1 0, 30, .inl q.2.2.2))] := hD
        refine lv_iload_n hx hb dX6_get_101 rfl (lv_at hl 1 rfl) ?_
        have hP9 := hP.sub (ws' := [((d 0), .inr (6, [.ref (d 1), .ref (d 2), .ref (d 3), .int (nI kn), .ref (d 4), .int (nI ln), .int th, .ref (d 5), .int (nI tm), .ref (d 6), .int (nI q.2.2.1), .int (nI pl), .int wr])), ((d 1), .inl (G.2.1 0, 80, .inl (upd (upd u_2 1 ((u_2 1) - 1)) 8 ((u_2 8) + 1)))), ((d 5), .inl (G.2.1 0, 30, .inl l9)), ((d 6), .inl (G.2.1 0, 30, .inl q.2.2.2))]) [1, 2, 0, 3] rfl
        have hD9 := hD.sub (ws' := [((d 0), .inr (6, [.ref (d 1), .ref (d 2), .ref (d 3), .int (nI kn), .ref (d 4), .int (nI ln), .int th, .ref (d 5), .int (nI tm), .ref (d 6), .int (nI q.2.2.1), .int (nI pl), .int wr])), ((d 1), .inl (G.2.1 0, 80, .inl (upd (upd u_2 1 ((u_2 1) - 1)) 8 ((u_2 8) + 1)))), ((d 5), .inl (G.2.1 0, 30, .inl l9)), ((d 6), .inl (G.2.1 0, 30, .inl q.2.2.2))]) [1, 2, 0, 3] (by decide) rfl
        exact z_iret hx hb hr rfl hlocks ((upd (upd u_2 1 ((u_2 1) - 1)) 8 ((u_2 8) + 1)), q) hP9 hD9 hS (Nat.le_of_ble_eq_true rfl) (Nat.le_of_ble_eq_true rfl) dX6_get_102 ⟨geR_of hde (by rw [hLO]; exact ((if_neg c_4).trans (if_pos (Int32.not_le.mp c_5))).symm), by show q.2.2.1 ≤ 30; omega⟩
    · refine lv_iload hx hb dX6_get_62 (lv_at hl 0 rfl) ?_
      refine lv_goto (tgt := 89) hx hb dX6_get_64 (by decide) ?_
      refine z_iast (k := 1) hx hb hK.1 hP hD hS 2 0 rfl rfl rfl (by omega) (by omega) dX6_get_89 (fun H locs hP hD hS => ?_)
      have hP : va_P G.1 vwCl [((d 5), .inl (G.2.1 0, 30, .inl l9)), ((d 0), .inr (6, [.ref (d 1), .ref (d 2), .ref (d 3), .int (nI kn), .ref (d 4), .int (nI ln), .int th, .ref (d 5), .int (nI tm), .ref (d 6), .int (nI q.2.2.1), .int (nI pl), .int wr])), ((d 1), .inl (G.2.1 0, 80, .inl (upd u_2 1 (10 - (u_2 0))))), ((d 6), .inl (G.2.1 0, 30, .inl q.2.2.2))] H := hP
      have hD : va_D A [((d 5), .inl (G.2.1 0, 30, .inl l9)), ((d 0), .inr (6, [.ref (d 1), .ref (d 2), .ref (d 3), .int (nI kn), .ref (d 4), .int (nI ln), .int th, .ref (d 5), .int (nI tm), .ref (d 6), .int (nI q.2.2.1), .int (nI pl), .int wr])), ((d 1), .inl (G.2.1 0, 80, .inl (upd u_2 1 (10 - (u_2 0))))), ((d 6), .inl (G.2.1 0, 30, .inl q.2.2.2))] := hD
      refine lv_aload_n hx hb dX6_get_90 rfl (lv_at hl 3 rfl) ?_
      refine va_get (D := G.1) (ci := 6) (v := .ref (d 1)) (C := RX6) (T := TX6) (N := 13) hx hb hts zi_X6_get_X6 hown hK.1 hP 1 rfl rfl 0 (by decide) (hts _ zw_X6_get_f7) (fun _ h9 => h9) rfl dX6_get_91 ?_
      refine lv_bipush (v := 8) hx hb dX6_get_94 (by decide) ?_
      refine lv_dup2_11 hx hb dX6_get_96 rfl rfl ?_
      refine z_iald (k := 8) hx hb hK.1 hP 2 0 rfl rfl rfl (by omega) (by omega) dX6_get_97 ?_
      refine lv_iconst (v := 1) hx hb dX6_get_98 (by decide) ?_
      refine lv_iadd hx hb dX6_get_99 ?_
      refine z_iast (k := 8) hx hb hK.1 hP hD hS 2 0 rfl rfl rfl (by omega) (by omega) dX6_get_100 (fun H locs hP hD hS => ?_)
      have hP : va_P G.1 vwCl [((d 5), .inl (G.2.1 0, 30, .inl l9)), ((d 0), .inr (6, [.ref (d 1), .ref (d 2), .ref (d 3), .int (nI kn), .ref (d 4), .int (nI ln), .int th, .ref (d 5), .int (nI tm), .ref (d 6), .int (nI q.2.2.1), .int (nI pl), .int wr])), ((d 1), .inl (G.2.1 0, 80, .inl (upd (upd u_2 1 (10 - (u_2 0))) 8 ((u_2 8) + 1)))), ((d 6), .inl (G.2.1 0, 30, .inl q.2.2.2))] H := hP
      have hD : va_D A [((d 5), .inl (G.2.1 0, 30, .inl l9)), ((d 0), .inr (6, [.ref (d 1), .ref (d 2), .ref (d 3), .int (nI kn), .ref (d 4), .int (nI ln), .int th, .ref (d 5), .int (nI tm), .ref (d 6), .int (nI q.2.2.1), .int (nI pl), .int wr])), ((d 1), .inl (G.2.1 0, 80, .inl (upd (upd u_2 1 (10 - (u_2 0))) 8 ((u_2 8) + 1)))), ((d 6), .inl (G.2.1 0, 30, .inl q.2.2.2))] := hD
      refine lv_iload_n hx hb dX6_get_101 rfl (lv_at hl 1 rfl) ?_
      have hP9 := hP.sub (ws' := [((d 0), .inr (6, [.ref (d 1), .ref (d 2), .ref (d 3), .int (nI kn), .ref (d 4), .int (nI ln), .int th, .ref (d 5), .int (nI tm), .ref (d 6), .int (nI q.2.2.1), .int (nI pl), .int wr])), ((d 1), .inl (G.2.1 0, 80, .inl (upd (upd u_2 1 (10 - (u_2 0))) 8 ((u_2 8) + 1)))), ((d 5), .inl (G.2.1 0, 30, .inl l9)), ((d 6), .inl (G.2.1 0, 30, .inl q.2.2.2))]) [1, 2, 0, 3] rfl
      have hD9 := hD.sub (ws' := [((d 0), .inr (6, [.ref (d 1), .ref (d 2), .ref (d 3), .int (nI kn), .ref (d 4), .int (nI ln), .int th, .ref (d 5), .int (nI tm), .ref (d 6), .int (nI q.2.2.1), .int (nI pl), .int wr])), ((d 1), .inl (G.2.1 0, 80, .inl (upd (upd u_2 1 (10 - (u_2 0))) 8 ((u_2 8) + 1)))), ((d 5), .inl (G.2.1 0, 30, .inl l9)), ((d 6), .inl (G.2.1 0, 30, .inl q.2.2.2))]) [1, 2, 0, 3] (by decide) rfl
      exact z_iret hx hb hr rfl hlocks ((upd (upd u_2 1 (10 - (u_2 0))) 8 ((u_2 8) + 1)), q) hP9 hD9 hS (Nat.le_of_ble_eq_true rfl) (Nat.le_of_ble_eq_true rfl) dX6_get_102 ⟨geR_of hde (by rw [hLO]; exact ((if_pos c_4).trans (if_neg (Int32.not_lt.mpr c_3))).symm), by show q.2.2.1 ≤ 30; omega⟩
  · refine lv_aload_n hx hb dX6_get_31 rfl (lv_at hl 2 rfl) ?_
    refine va_get (D := G.1) (ci := 6) (v := .ref (d 1)) (C := RX6) (T := TX6) (N := 13) hx hb hts zi_X6_get_X6 hown hK.1 hP 1 rfl rfl 0 (by decide) (hts _ zw_X6_get_f7) (fun _ h9 => h9) rfl dX6_get_32 ?_
    refine lv_iconst (v := 1) hx hb dX6_get_35 (by decide) ?_
    refine z_iald (k := 1) hx hb hK.1 hP 2 0 rfl rfl rfl (by omega) (by omega) dX6_get_36 ?_
    refine lv_iconst (v := 1) hx hb dX6_get_37 (by decide) ?_
    refine lv_iadd hx hb dX6_get_38 ?_
    refine lv_goto (tgt := 51) hx hb dX6_get_39 (by decide) ?_
    refine lv_istore (lv' := [(4, .int ((u_2 1) + 1)), (3, .int r9), (2, .int q.2.1), (0, .ref (d 0)), (1, .int st9)]) hx hb dX6_get_51 hl (by decide) rfl (fun ls hl => ?_)
    refine lv_aload_n hx hb dX6_get_53 rfl (lv_at hl 3 rfl) ?_
    refine va_get (D := G.1) (ci := 6) (v := .ref (d 1)) (C := RX6) (T := TX6) (N := 13) hx hb hts zi_X6_get_X6 hown hK.1 hP 1 rfl rfl 0 (by decide) (hts _ zw_X6_get_f7) (fun _ h9 => h9) rfl dX6_get_54 ?_
    refine lv_iconst (v := 1) hx hb dX6_get_57 (by decide) ?_
    refine lv_iload_n hx hb dX6_get_58 rfl (lv_at hl 2 rfl) ?_
    refine lv_if_ne (tgt := 67) hx hb dX6_get_59 (by decide) (fun c_6 => ?_) (fun c_6 => ?_)
    · refine lv_aload_n hx hb dX6_get_67 rfl (lv_at hl 3 rfl) ?_
      refine va_get (D := G.1) (ci := 6) (v := .ref (d 1)) (C := RX6) (T := TX6) (N := 13) hx hb hts zi_X6_get_X6 hown hK.1 hP 1 rfl rfl 0 (by decide) (hts _ zw_X6_get_f7) (fun _ h9 => h9) rfl dX6_get_68 ?_
      refine lv_iconst (v := 1) hx hb dX6_get_71 (by decide) ?_
      refine z_iald (k := 1) hx hb hK.1 hP 2 0 rfl rfl rfl (by omega) (by omega) dX6_get_72 ?_
      refine lv_iconst (v := 1) hx hb dX6_get_73 (by decide) ?_
      refine lv_icmp_le (tgt := 88) hx hb dX6_get_74 (by decide) (fun c_7 => ?_) (fun c_7 => ?_)
      · refine lv_iconst (v := 1) hx hb dX6_get_88 (by decide) ?_
        refine z_iast (k := 1) hx hb hK.1 hP hD hS 2 0 rfl rfl rfl (by omega) (by omega) dX6_get_89 (fun H locs hP hD hS => ?_)
        have hP : va_P G.1 vwCl [((d 5), .inl (G.2.1 0, 30, .inl l9)), ((d 0), .inr (6, [.ref (d 1), .ref (d 2), .ref (d 3), .int (nI kn), .ref (d 4), .int (nI ln), .int th, .ref (d 5), .int (nI tm), .ref (d 6), .int (nI q.2.2.1), .int (nI pl), .int wr])), ((d 1), .inl (G.2.1 0, 80, .inl (upd u_2 1 1))), ((d 6), .inl (G.2.1 0, 30, .inl q.2.2.2))] H := hP
        have hD : va_D A [((d 5), .inl (G.2.1 0, 30, .inl l9)), ((d 0), .inr (6, [.ref (d 1), .ref (d 2), .ref (d 3), .int (nI kn), .ref (d 4), .int (nI ln), .int th, .ref (d 5), .int (nI tm), .ref (d 6), .int (nI q.2.2.1), .int (nI pl), .int wr])), ((d 1), .inl (G.2.1 0, 80, .inl (upd u_2 1 1))), ((d 6), .inl (G.2.1 0, 30, .inl q.2.2.2))] := hD
        refine lv_aload_n hx hb dX6_get_90 rfl (lv_at hl 3 rfl) ?_
        refine va_get (D := G.1) (ci := 6) (v := .ref (d 1)) (C := RX6) (T := TX6) (N := 13) hx hb hts zi_X6_get_X6 hown hK.1 hP 1 rfl rfl 0 (by decide) (hts _ zw_X6_get_f7) (fun _ h9 => h9) rfl dX6_get_91 ?_
        refine lv_bipush (v := 8) hx hb dX6_get_94 (by decide) ?_
        refine lv_dup2_11 hx hb dX6_get_96 rfl rfl ?_
        refine z_iald (k := 8) hx hb hK.1 hP 2 0 rfl rfl rfl (by omega) (by omega) dX6_get_97 ?_
        refine lv_iconst (v := 1) hx hb dX6_get_98 (by decide) ?_
        refine lv_iadd hx hb dX6_get_99 ?_
        refine z_iast (k := 8) hx hb hK.1 hP hD hS 2 0 rfl rfl rfl (by omega) (by omega) dX6_get_100 (fun H locs hP hD hS => ?_)
        have hP : va_P G.1 vwCl [((d 5), .inl (G.2.1 0, 30, .inl l9)), ((d 0), .inr (6, [.ref (d 1), .ref (d 2), .ref (d 3), .int (nI kn), .ref (d 4), .int (nI ln), .int th, .ref (d 5), .int (nI tm), .ref (d 6), .int (nI q.2.2.1), .int (nI pl), .int wr])), ((d 1), .inl (G.2.1 0, 80, .inl (upd (upd u_2 1 1) 8 ((u_2 8) + 1)))), ((d 6), .inl (G.2.1 0, 30, .inl q.2.2.2))] H := hP
        have hD : va_D A [((d 5), .inl (G.2.1 0, 30, .inl l9)), ((d 0), .inr (6, [.ref (d 1), .ref (d 2), .ref (d 3), .int (nI kn), .ref (d 4), .int (nI ln), .int th, .ref (d 5), .int (nI tm), .ref (d 6), .int (nI q.2.2.1), .int (nI pl), .int wr])), ((d 1), .inl (G.2.1 0, 80, .inl (upd (upd u_2 1 1) 8 ((u_2 8) + 1)))), ((d 6), .inl (G.2.1 0, 30, .inl q.2.2.2))] := hD
        refine lv_iload_n hx hb dX6_get_101 rfl (lv_at hl 1 rfl) ?_
        have hP9 := hP.sub (ws' := [((d 0), .inr (6, [.ref (d 1), .ref (d 2), .ref (d 3), .int (nI kn), .ref (d 4), .int (nI ln), .int th, .ref (d 5), .int (nI tm), .ref (d 6), .int (nI q.2.2.1), .int (nI pl), .int wr])), ((d 1), .inl (G.2.1 0, 80, .inl (upd (upd u_2 1 1) 8 ((u_2 8) + 1)))), ((d 5), .inl (G.2.1 0, 30, .inl l9)), ((d 6), .inl (G.2.1 0, 30, .inl q.2.2.2))]) [1, 2, 0, 3] rfl
        have hD9 := hD.sub (ws' := [((d 0), .inr (6, [.ref (d 1), .ref (d 2), .ref (d 3), .int (nI kn), .ref (d 4), .int (nI ln), .int th, .ref (d 5), .int (nI tm), .ref (d 6), .int (nI q.2.2.1), .int (nI pl), .int wr])), ((d 1), .inl (G.2.1 0, 80, .inl (upd (upd u_2 1 1) 8 ((u_2 8) + 1)))), ((d 5), .inl (G.2.1 0, 30, .inl l9)), ((d 6), .inl (G.2.1 0, 30, .inl q.2.2.2))]) [1, 2, 0, 3] (by decide) rfl
        exact z_iret hx hb hr rfl hlocks ((upd (upd u_2 1 1) 8 ((u_2 8) + 1)), q) hP9 hD9 hS (Nat.le_of_ble_eq_true rfl) (Nat.le_of_ble_eq_true rfl) dX6_get_102 ⟨geR_of hde (by rw [hLO]; exact ((if_neg c_6).trans (if_neg (Int32.not_lt.mpr c_7))).symm), by show q.2.2.1 ≤ 30; omega⟩
      · refine lv_aload_n hx hb dX6_get_77 rfl (lv_at hl 3 rfl) ?_
        refine va_get (D := G.1) (ci := 6) (v := .ref (d 1)) (C := RX6) (T := TX6) (N := 13) hx hb hts zi_X6_get_X6 hown hK.1 hP 1 rfl rfl 0 (by decide) (hts _ zw_X6_get_f7) (fun _ h9 => h9) rfl dX6_get_78 ?_
        refine lv_iconst (v := 1) hx hb dX6_get_81 (by decide) ?_
        refine z_iald (k := 1) hx hb hK.1 hP 2 0 rfl rfl rfl (by omega) (by omega) dX6_get_82 ?_
        refine lv_iconst (v := 1) hx hb dX6_get_83 (by decide) ?_
        refine lv_isub hx hb dX6_get_84 ?_
        refine lv_goto (tgt := 89) hx hb dX6_get_85 (by decide) ?_
        refine z_iast (k := 1) hx hb hK.1 hP hD hS 2 0 rfl rfl rfl (by omega) (by omega) dX6_get_89 (fun H locs hP hD hS => ?_)
        have hP : va_P G.1 vwCl [((d 5), .inl (G.2.1 0, 30, .inl l9)), ((d 0), .inr (6, [.ref (d 1), .ref (d 2), .ref (d 3), .int (nI kn), .ref (d 4), .int (nI ln), .int th, .ref (d 5), .int (nI tm), .ref (d 6), .int (nI q.2.2.1), .int (nI pl), .int wr])), ((d 1), .inl (G.2.1 0, 80, .inl (upd u_2 1 ((u_2 1) - 1)))), ((d 6), .inl (G.2.1 0, 30, .inl q.2.2.2))] H := hP
        have hD : va_D A [((d 5), .inl (G.2.1 0, 30, .inl l9)), ((d 0), .inr (6, [.ref (d 1), .ref (d 2), .ref (d 3), .int (nI kn), .ref (d 4), .int (nI ln), .int th, .ref (d 5), .int (nI tm), .ref (d 6), .int (nI q.2.2.1), .int (nI pl), .int wr])), ((d 1), .inl (G.2.1 0, 80, .inl (upd u_2 1 ((u_2 1) - 1)))), ((d 6), .inl (G.2.1 0, 30, .inl q.2.2.2))] := hD
        refine lv_aload_n hx hb dX6_get_90 rfl (lv_at hl 3 rfl) ?_
        refine va_get (D := G.1) (ci := 6) (v := .ref (d 1)) (C := RX6) (T := TX6) (N := 13) hx hb hts zi_X6_get_X6 hown hK.1 hP 1 rfl rfl 0 (by decide) (hts _ zw_X6_get_f7) (fun _ h9 => h9) rfl dX6_get_91 ?_
        refine lv_bipush (v := 8) hx hb dX6_get_94 (by decide) ?_
        refine lv_dup2_11 hx hb dX6_get_96 rfl rfl ?_
        refine z_iald (k := 8) hx hb hK.1 hP 2 0 rfl rfl rfl (by omega) (by omega) dX6_get_97 ?_
        refine lv_iconst (v := 1) hx hb dX6_get_98 (by decide) ?_
        refine lv_iadd hx hb dX6_get_99 ?_
        refine z_iast (k := 8) hx hb hK.1 hP hD hS 2 0 rfl rfl rfl (by omega) (by omega) dX6_get_100 (fun H locs hP hD hS => ?_)
        have hP : va_P G.1 vwCl [((d 5), .inl (G.2.1 0, 30, .inl l9)), ((d 0), .inr (6, [.ref (d 1), .ref (d 2), .ref (d 3), .int (nI kn), .ref (d 4), .int (nI ln), .int th, .ref (d 5), .int (nI tm), .ref (d 6), .int (nI q.2.2.1), .int (nI pl), .int wr])), ((d 1), .inl (G.2.1 0, 80, .inl (upd (upd u_2 1 ((u_2 1) - 1)) 8 ((u_2 8) + 1)))), ((d 6), .inl (G.2.1 0, 30, .inl q.2.2.2))] H := hP
        have hD : va_D A [((d 5), .inl (G.2.1 0, 30, .inl l9)), ((d 0), .inr (6, [.ref (d 1), .ref (d 2), .ref (d 3), .int (nI kn), .ref (d 4), .int (nI ln), .int th, .ref (d 5), .int (nI tm), .ref (d 6), .int (nI q.2.2.1), .int (nI pl), .int wr])), ((d 1), .inl (G.2.1 0, 80, .inl (upd (upd u_2 1 ((u_2 1) - 1)) 8 ((u_2 8) + 1)))), ((d 6), .inl (G.2.1 0, 30, .inl q.2.2.2))] := hD
        refine lv_iload_n hx hb dX6_get_101 rfl (lv_at hl 1 rfl) ?_
        have hP9 := hP.sub (ws' := [((d 0), .inr (6, [.ref (d 1), .ref (d 2), .ref (d 3), .int (nI kn), .ref (d 4), .int (nI ln), .int th, .ref (d 5), .int (nI tm), .ref (d 6), .int (nI q.2.2.1), .int (nI pl), .int wr])), ((d 1), .inl (G.2.1 0, 80, .inl (upd (upd u_2 1 ((u_2 1) - 1)) 8 ((u_2 8) + 1)))), ((d 5), .inl (G.2.1 0, 30, .inl l9)), ((d 6), .inl (G.2.1 0, 30, .inl q.2.2.2))]) [1, 2, 0, 3] rfl
        have hD9 := hD.sub (ws' := [((d 0), .inr (6, [.ref (d 1), .ref (d 2), .ref (d 3), .int (nI kn), .ref (d 4), .int (nI ln), .int th, .ref (d 5), .int (nI tm), .ref (d 6), .int (nI q.2.2.1), .int (nI pl), .int wr])), ((d 1), .inl (G.2.1 0, 80, .inl (upd (upd u_2 1 ((u_2 1) - 1)) 8 ((u_2 8) + 1)))), ((d 5), .inl (G.2.1 0, 30, .inl l9)), ((d 6), .inl (G.2.1 0, 30, .inl q.2.2.2))]) [1, 2, 0, 3] (by decide) rfl
        exact z_iret hx hb hr rfl hlocks ((upd (upd u_2 1 ((u_2 1) - 1)) 8 ((u_2 8) + 1)), q) hP9 hD9 hS (Nat.le_of_ble_eq_true rfl) (Nat.le_of_ble_eq_true rfl) dX6_get_102 ⟨geR_of hde (by rw [hLO]; exact ((if_neg c_6).trans (if_pos (Int32.not_le.mp c_7))).symm), by show q.2.2.1 ≤ 30; omega⟩
    · refine lv_iload hx hb dX6_get_62 (lv_at hl 0 rfl) ?_
      refine lv_goto (tgt := 89) hx hb dX6_get_64 (by decide) ?_
      refine z_iast (k := 1) hx hb hK.1 hP hD hS 2 0 rfl rfl rfl (by omega) (by omega) dX6_get_89 (fun H locs hP hD hS => ?_)
      have hP : va_P G.1 vwCl [((d 5), .inl (G.2.1 0, 30, .inl l9)), ((d 0), .inr (6, [.ref (d 1), .ref (d 2), .ref (d 3), .int (nI kn), .ref (d 4), .int (nI ln), .int th, .ref (d 5), .int (nI tm), .ref (d 6), .int (nI q.2.2.1), .int (nI pl), .int wr])), ((d 1), .inl (G.2.1 0, 80, .inl (upd u_2 1 ((u_2 1) + 1)))), ((d 6), .inl (G.2.1 0, 30, .inl q.2.2.2))] H := hP
      have hD : va_D A [((d 5), .inl (G.2.1 0, 30, .inl l9)), ((d 0), .inr (6, [.ref (d 1), .ref (d 2), .ref (d 3), .int (nI kn), .ref (d 4), .int (nI ln), .int th, .ref (d 5), .int (nI tm), .ref (d 6), .int (nI q.2.2.1), .int (nI pl), .int wr])), ((d 1), .inl (G.2.1 0, 80, .inl (upd u_2 1 ((u_2 1) + 1)))), ((d 6), .inl (G.2.1 0, 30, .inl q.2.2.2))] := hD
      refine lv_aload_n hx hb dX6_get_90 rfl (lv_at hl 3 rfl) ?_
      refine va_get (D := G.1) (ci := 6) (v := .ref (d 1)) (C := RX6) (T := TX6) (N := 13) hx hb hts zi_X6_get_X6 hown hK.1 hP 1 rfl rfl 0 (by decide) (hts _ zw_X6_get_f7) (fun _ h9 => h9) rfl dX6_get_91 ?_
      refine lv_bipush (v := 8) hx hb dX6_get_94 (by decide) ?_
      refine lv_dup2_11 hx hb dX6_get_96 rfl rfl ?_
      refine z_iald (k := 8) hx hb hK.1 hP 2 0 rfl rfl rfl (by omega) (by omega) dX6_get_97 ?_
      refine lv_iconst (v := 1) hx hb dX6_get_98 (by decide) ?_
      refine lv_iadd hx hb dX6_get_99 ?_
      refine z_iast (k := 8) hx hb hK.1 hP hD hS 2 0 rfl rfl rfl (by omega) (by omega) dX6_get_100 (fun H locs hP hD hS => ?_)
      have hP : va_P G.1 vwCl [((d 5), .inl (G.2.1 0, 30, .inl l9)), ((d 0), .inr (6, [.ref (d 1), .ref (d 2), .ref (d 3), .int (nI kn), .ref (d 4), .int (nI ln), .int th, .ref (d 5), .int (nI tm), .ref (d 6), .int (nI q.2.2.1), .int (nI pl), .int wr])), ((d 1), .inl (G.2.1 0, 80, .inl (upd (upd u_2 1 ((u_2 1) + 1)) 8 ((u_2 8) + 1)))), ((d 6), .inl (G.2.1 0, 30, .inl q.2.2.2))] H := hP
      have hD : va_D A [((d 5), .inl (G.2.1 0, 30, .inl l9)), ((d 0), .inr (6, [.ref (d 1), .ref (d 2), .ref (d 3), .int (nI kn), .ref (d 4), .int (nI ln), .int th, .ref (d 5), .int (nI tm), .ref (d 6), .int (nI q.2.2.1), .int (nI pl), .int wr])), ((d 1), .inl (G.2.1 0, 80, .inl (upd (upd u_2 1 ((u_2 1) + 1)) 8 ((u_2 8) + 1)))), ((d 6), .inl (G.2.1 0, 30, .inl q.2.2.2))] := hD
      refine lv_iload_n hx hb dX6_get_101 rfl (lv_at hl 1 rfl) ?_
      have hP9 := hP.sub (ws' := [((d 0), .inr (6, [.ref (d 1), .ref (d 2), .ref (d 3), .int (nI kn), .ref (d 4), .int (nI ln), .int th, .ref (d 5), .int (nI tm), .ref (d 6), .int (nI q.2.2.1), .int (nI pl), .int wr])), ((d 1), .inl (G.2.1 0, 80, .inl (upd (upd u_2 1 ((u_2 1) + 1)) 8 ((u_2 8) + 1)))), ((d 5), .inl (G.2.1 0, 30, .inl l9)), ((d 6), .inl (G.2.1 0, 30, .inl q.2.2.2))]) [1, 2, 0, 3] rfl
      have hD9 := hD.sub (ws' := [((d 0), .inr (6, [.ref (d 1), .ref (d 2), .ref (d 3), .int (nI kn), .ref (d 4), .int (nI ln), .int th, .ref (d 5), .int (nI tm), .ref (d 6), .int (nI q.2.2.1), .int (nI pl), .int wr])), ((d 1), .inl (G.2.1 0, 80, .inl (upd (upd u_2 1 ((u_2 1) + 1)) 8 ((u_2 8) + 1)))), ((d 5), .inl (G.2.1 0, 30, .inl l9)), ((d 6), .inl (G.2.1 0, 30, .inl q.2.2.2))]) [1, 2, 0, 3] (by decide) rfl
      exact z_iret hx hb hr rfl hlocks ((upd (upd u_2 1 ((u_2 1) + 1)) 8 ((u_2 8) + 1)), q) hP9 hD9 hS (Nat.le_of_ble_eq_true rfl) (Nat.le_of_ble_eq_true rfl) dX6_get_102 ⟨geR_of hde (by rw [hLO]; exact ((if_pos c_6).trans (if_pos (Int32.not_le.mp c_3))).symm), by show q.2.2.1 ≤ 30; omega⟩
theorem zw_X6_passes_f7 : Cond.fieldLink RX6 7 "LightReceiverModel" "s" "[I" ∈ wsX6_passes := by decide +kernel
theorem zi_X6_passes_X6 : ∀ w ∈ wsX60, w ∈ wsX6_passes := fun _ h => List.mem_cons_of_mem _ (List.mem_append_right _ h)
set_option maxHeartbeats 1000000 in
set_option maxRecDepth 100000 in
theorem c_X6_passes (l : Launch) (G : zG) (sz : Nat) (d : Nat → Nat) (kn ln tm kp pl : Nat) (th wr : Int32) (s9 : zF) (tk : Int32) : zMv l yX6_passes wsX6_passes ({ frames := 1, cells := 0, slots := 0, locals := 20 } : Room) [.ref (d 0), .int tk] G [((d 0), .inr (6, [.ref (d 1), .ref (d 2), .ref (d 3), .int (nI kn), .ref (d 4), .int (nI ln), .int th, .ref (d 5), .int (nI tm), .ref (d 6), .int (nI kp), .int (nI pl), .int wr])), ((d 1), .inl (G.2.1 0, 80, .inl s9))] (fun (u : zF) => u = paR s9 tk) (fun u => [((d 0), .inr (6, [.ref (d 1), .ref (d 2), .ref (d 3), .int (nI kn), .ref (d 4), .int (nI ln), .int th, .ref (d 5), .int (nI tm), .ref (d 6), .int (nI kp), .int (nI pl), .int wr])), ((d 1), .inl (G.2.1 0, 80, .inl u))]) sz 0 0 := by
  refine zMv_of (cc := cX6_passes) (maxL := 2) (ret := none) (by decide) rfl (Nat.le_of_ble_eq_true rfl) ?_
  intro p e s m args below meth c A ls hx hb hr hml hts hown hlocks hnm hK hP hD hAe hS hA hl hsz
  have hown : s.vm.findClass RX6 = some m.cls := hown
  have hP : va_P G.1 vwCl [((d 0), .inr (6, [.ref (d 1), .ref (d 2), .ref (d 3), .int (nI kn), .ref (d 4), .int (nI ln), .int th, .ref (d 5), .int (nI tm), .ref (d 6), .int (nI kp), .int (nI pl), .int wr])), ((d 1), .inl (G.2.1 0, 80, .inl s9))] s.heap := hP
  have hD : va_D A [((d 0), .inr (6, [.ref (d 1), .ref (d 2), .ref (d 3), .int (nI kn), .ref (d 4), .int (nI ln), .int th, .ref (d 5), .int (nI tm), .ref (d 6), .int (nI kp), .int (nI pl), .int wr])), ((d 1), .inl (G.2.1 0, 80, .inl s9))] := hD
  have hl : lv_has ls 2 [(0, .ref (d 0)), (1, .int tk)] := hl
  refine lv_aload_n hx hb dX6_passes_0 rfl (lv_at hl 0 rfl) ?_
  refine va_get (D := G.1) (ci := 6) (v := .ref (d 1)) (C := RX6) (T := TX6) (N := 13) hx hb hts zi_X6_passes_X6 hown hK.1 hP 0 rfl rfl 0 (by decide) (hts _ zw_X6_passes_f7) (fun _ h9 => h9) rfl dX6_passes_1 ?_
  refine lv_bipush (v := 6) hx hb dX6_passes_4 (by decide) ?_
  refine lv_dup2_11 hx hb dX6_passes_6 rfl rfl ?_
  refine z_iald (k := 6) hx hb hK.1 hP 1 0 rfl rfl rfl (by omega) (by omega) dX6_passes_7 ?_
  refine lv_aload_n hx hb dX6_passes_8 rfl (lv_at hl 0 rfl) ?_
  refine va_get (D := G.1) (ci := 6) (v := .ref (d 1)) (C := RX6) (T := TX6) (N := 13) hx hb hts zi_X6_passes_X6 hown hK.1 hP 0 rfl rfl 0 (by decide) (hts _ zw_X6_passes_f7) (fun _ h9 => h9) rfl dX6_passes_9 ?_
  refine lv_bipush (v := 6) hx hb dX6_passes_12 (by decide) ?_
  refine z_iald (k := 6) hx hb hK.1 hP 1 0 rfl rfl rfl (by omega) (by omega) dX6_passes_14 ?_
  refine lv_if_ge (tgt := 22) hx hb dX6_passes_15 (by decide) (fun c_1 => ?_) (fun c_1 => ?_)
  · refine lv_iload_n hx hb dX6_passes_22 rfl (lv_at hl 1 rfl) ?_
    refine lv_iadd hx hb dX6_passes_23 ?_
    refine z_iast (k := 6) hx hb hK.1 hP hD hS 1 0 rfl rfl rfl (by omega) (by omega) dX6_passes_24 (fun H locs hP hD hS => ?_)
    have hP : va_P G.1 vwCl [((d 0), .inr (6, [.ref (d 1), .ref (d 2), .ref (d 3), .int (nI kn), .ref (d 4), .int (nI ln), .int th, .ref (d 5), .int (nI tm), .ref (d 6), .int (nI kp), .int (nI pl), .int wr])), ((d 1), .inl (G.2.1 0, 80, .inl (upd s9 6 ((s9 6) + tk))))] H := hP
    have hD : va_D A [((d 0), .inr (6, [.ref (d 1), .ref (d 2), .ref (d 3), .int (nI kn), .ref (d 4), .int (nI ln), .int th, .ref (d 5), .int (nI tm), .ref (d 6), .int (nI kp), .int (nI pl), .int wr])), ((d 1), .inl (G.2.1 0, 80, .inl (upd s9 6 ((s9 6) + tk))))] := hD
    refine lv_aload_n hx hb dX6_passes_25 rfl (lv_at hl 0 rfl) ?_
    have hPc := hP.sub (ws' := [((d 0), .inr (6, [.ref (d 1), .ref (d 2), .ref (d 3), .int (nI kn), .ref (d 4), .int (nI ln), .int th, .ref (d 5), .int (nI tm), .ref (d 6), .int (nI kp), .int (nI pl), .int wr])), ((d 1), .inl (G.2.1 0, 80, .inl (upd s9 6 ((s9 6) + tk))))]) [0, 1] rfl
    have hDc := hD.sub (ws' := [((d 0), .inr (6, [.ref (d 1), .ref (d 2), .ref (d 3), .int (nI kn), .ref (d 4), .int (nI ln), .int th, .ref (d 5), .int (nI tm), .ref (d 6), .int (nI kp), .int (nI pl), .int wr])), ((d 1), .inl (G.2.1 0, 80, .inl (upd s9 6 ((s9 6) + tk))))]) [0, 1] (by decide) rfl
    refine z_calli (wr := []) (va_runV (As := []) (rest := []) ⟨hx, hb, hml, hown, hts⟩ (c_X6_isRemembered l G H.size d kn ln tm kp pl th wr (upd s9 6 ((s9 6) + tk))) (cwV 0 hts gX6_passes_X6_isRemembered rfl rfl rfl (by decide +kernel) ⟨(Nat.le_of_ble_eq_true rfl), (Nat.le_of_ble_eq_true rfl)⟩) (zV (ci := 6) (q0 := 0) hK hPc hDc rfl rfl) rfl rfl hl.1 rfl (lv_room (Nat.le_of_ble_eq_true rfl)) dX6_passes_26 ⟨(Nat.le_of_ble_eq_true rfl), (Nat.le_of_ble_eq_true rfl)⟩) hP hD hS hA [0, 1] [] rfl rfl (by decide) (by decide) (fun r_2 u_2 H locs hw_2 hP hD hS => ?_)
    subst hw_2
    have hP : va_P G.1 vwCl [((d 0), .inr (6, [.ref (d 1), .ref (d 2), .ref (d 3), .int (nI kn), .ref (d 4), .int (nI ln), .int th, .ref (d 5), .int (nI tm), .ref (d 6), .int (nI kp), .int (nI pl), .int wr])), ((d 1), .inl (G.2.1 0, 80, .inl (upd s9 6 ((s9 6) + tk))))] H := hP
    have hD : va_D A [((d 0), .inr (6, [.ref (d 1), .ref (d 2), .ref (d 3), .int (nI kn), .ref (d 4), .int (nI ln), .int th, .ref (d 5), .int (nI tm), .ref (d 6), .int (nI kp), .int (nI pl), .int wr])), ((d 1), .inl (G.2.1 0, 80, .inl (upd s9 6 ((s9 6) + tk))))] := hD
    refine lv_if_ne (tgt := 39) hx hb dX6_passes_29 (by decide) (fun c_3 => ?_) (fun c_3 => ?_)
    · have hrm : rmR (upd s9 6 ((s9 6) + tk)) := Decidable.byContradiction (fun z => c_3 (if_neg z))
      have hP9 := hP.sub (ws' := [((d 0), .inr (6, [.ref (d 1), .ref (d 2), .ref (d 3), .int (nI kn), .ref (d 4), .int (nI ln), .int th, .ref (d 5), .int (nI tm), .ref (d 6), .int (nI kp), .int (nI pl), .int wr])), ((d 1), .inl (G.2.1 0, 80, .inl (upd s9 6 ((s9 6) + tk))))]) [0, 1] rfl
      have hD9 := hD.sub (ws' := [((d 0), .inr (6, [.ref (d 1), .ref (d 2), .ref (d 3), .int (nI kn), .ref (d 4), .int (nI ln), .int th, .ref (d 5), .int (nI tm), .ref (d 6), .int (nI kp), .int (nI pl), .int wr])), ((d 1), .inl (G.2.1 0, 80, .inl (upd s9 6 ((s9 6) + tk))))]) [0, 1] (by decide) rfl
      exact z_vret hx hb hr hlocks (upd s9 6 ((s9 6) + tk)) hP9 hD9 hS (Nat.le_of_ble_eq_true rfl) (Nat.le_of_ble_eq_true rfl) dX6_passes_39 (paR_p ((if_neg (Int32.not_lt.mpr c_1)).symm) hrm)
    · have hrm : ¬ (rmR (upd s9 6 ((s9 6) + tk))) := fun z => absurd (c_3 : (if rmR (upd s9 6 ((s9 6) + tk)) then (1 : Int32) else 0) = 0) (by rw [if_pos z]; decide)
      refine lv_aload_n hx hb dX6_passes_32 rfl (lv_at hl 0 rfl) ?_
      refine va_get (D := G.1) (ci := 6) (v := .ref (d 1)) (C := RX6) (T := TX6) (N := 13) hx hb hts zi_X6_passes_X6 hown hK.1 hP 0 rfl rfl 0 (by decide) (hts _ zw_X6_passes_f7) (fun _ h9 => h9) rfl dX6_passes_33 ?_
      refine lv_iconst (v := 5) hx hb dX6_passes_36 (by decide) ?_
      refine lv_iconst (v := 0) hx hb dX6_passes_37 (by decide) ?_
      refine z_iast (k := 5) hx hb hK.1 hP hD hS 1 0 rfl rfl rfl (by omega) (by omega) dX6_passes_38 (fun H locs hP hD hS => ?_)
      have hP : va_P G.1 vwCl [((d 0), .inr (6, [.ref (d 1), .ref (d 2), .ref (d 3), .int (nI kn), .ref (d 4), .int (nI ln), .int th, .ref (d 5), .int (nI tm), .ref (d 6), .int (nI kp), .int (nI pl), .int wr])), ((d 1), .inl (G.2.1 0, 80, .inl (upd (upd s9 6 ((s9 6) + tk)) 5 0)))] H := hP
      have hD : va_D A [((d 0), .inr (6, [.ref (d 1), .ref (d 2), .ref (d 3), .int (nI kn), .ref (d 4), .int (nI ln), .int th, .ref (d 5), .int (nI tm), .ref (d 6), .int (nI kp), .int (nI pl), .int wr])), ((d 1), .inl (G.2.1 0, 80, .inl (upd (upd s9 6 ((s9 6) + tk)) 5 0)))] := hD
      have hP9 := hP.sub (ws' := [((d 0), .inr (6, [.ref (d 1), .ref (d 2), .ref (d 3), .int (nI kn), .ref (d 4), .int (nI ln), .int th, .ref (d 5), .int (nI tm), .ref (d 6), .int (nI kp), .int (nI pl), .int wr])), ((d 1), .inl (G.2.1 0, 80, .inl (upd (upd s9 6 ((s9 6) + tk)) 5 0)))]) [0, 1] rfl
      have hD9 := hD.sub (ws' := [((d 0), .inr (6, [.ref (d 1), .ref (d 2), .ref (d 3), .int (nI kn), .ref (d 4), .int (nI ln), .int th, .ref (d 5), .int (nI tm), .ref (d 6), .int (nI kp), .int (nI pl), .int wr])), ((d 1), .inl (G.2.1 0, 80, .inl (upd (upd s9 6 ((s9 6) + tk)) 5 0)))]) [0, 1] (by decide) rfl
      exact z_vret hx hb hr hlocks (upd (upd s9 6 ((s9 6) + tk)) 5 0) hP9 hD9 hS (Nat.le_of_ble_eq_true rfl) (Nat.le_of_ble_eq_true rfl) dX6_passes_39 (paR_n ((if_neg (Int32.not_lt.mpr c_1)).symm) hrm)
  · refine lv_iconst (v := 0) hx hb dX6_passes_18 (by decide) ?_
    refine lv_goto (tgt := 23) hx hb dX6_passes_19 (by decide) ?_
    refine lv_iadd hx hb dX6_passes_23 ?_
    refine z_iast (k := 6) hx hb hK.1 hP hD hS 1 0 rfl rfl rfl (by omega) (by omega) dX6_passes_24 (fun H locs hP hD hS => ?_)
    have hP : va_P G.1 vwCl [((d 0), .inr (6, [.ref (d 1), .ref (d 2), .ref (d 3), .int (nI kn), .ref (d 4), .int (nI ln), .int th, .ref (d 5), .int (nI tm), .ref (d 6), .int (nI kp), .int (nI pl), .int wr])), ((d 1), .inl (G.2.1 0, 80, .inl (upd s9 6 ((s9 6) + 0))))] H := hP
    have hD : va_D A [((d 0), .inr (6, [.ref (d 1), .ref (d 2), .ref (d 3), .int (nI kn), .ref (d 4), .int (nI ln), .int th, .ref (d 5), .int (nI tm), .ref (d 6), .int (nI kp), .int (nI pl), .int wr])), ((d 1), .inl (G.2.1 0, 80, .inl (upd s9 6 ((s9 6) + 0))))] := hD
    refine lv_aload_n hx hb dX6_passes_25 rfl (lv_at hl 0 rfl) ?_
    have hPc := hP.sub (ws' := [((d 0), .inr (6, [.ref (d 1), .ref (d 2), .ref (d 3), .int (nI kn), .ref (d 4), .int (nI ln), .int th, .ref (d 5), .int (nI tm), .ref (d 6), .int (nI kp), .int (nI pl), .int wr])), ((d 1), .inl (G.2.1 0, 80, .inl (upd s9 6 ((s9 6) + 0))))]) [0, 1] rfl
    have hDc := hD.sub (ws' := [((d 0), .inr (6, [.ref (d 1), .ref (d 2), .ref (d 3), .int (nI kn), .ref (d 4), .int (nI ln), .int th, .ref (d 5), .int (nI tm), .ref (d 6), .int (nI kp), .int (nI pl), .int wr])), ((d 1), .inl (G.2.1 0, 80, .inl (upd s9 6 ((s9 6) + 0))))]) [0, 1] (by decide) rfl
    refine z_calli (wr := []) (va_runV (As := []) (rest := []) ⟨hx, hb, hml, hown, hts⟩ (c_X6_isRemembered l G H.size d kn ln tm kp pl th wr (upd s9 6 ((s9 6) + 0))) (cwV 0 hts gX6_passes_X6_isRemembered rfl rfl rfl (by decide +kernel) ⟨(Nat.le_of_ble_eq_true rfl), (Nat.le_of_ble_eq_true rfl)⟩) (zV (ci := 6) (q0 := 0) hK hPc hDc rfl rfl) rfl rfl hl.1 rfl (lv_room (Nat.le_of_ble_eq_true rfl)) dX6_passes_26 ⟨(Nat.le_of_ble_eq_true rfl), (Nat.le_of_ble_eq_true rfl)⟩) hP hD hS hA [0, 1] [] rfl rfl (by decide) (by decide) (fun r_4 u_4 H locs hw_4 hP hD hS => ?_)
    subst hw_4
    have hP : va_P G.1 vwCl [((d 0), .inr (6, [.ref (d 1), .ref (d 2), .ref (d 3), .int (nI kn), .ref (d 4), .int (nI ln), .int th, .ref (d 5), .int (nI tm), .ref (d 6), .int (nI kp), .int (nI pl), .int wr])), ((d 1), .inl (G.2.1 0, 80, .inl (upd s9 6 ((s9 6) + 0))))] H := hP
    have hD : va_D A [((d 0), .inr (6, [.ref (d 1), .ref (d 2), .ref (d 3), .int (nI kn), .ref (d 4), .int (nI ln), .int th, .ref (d 5), .int (nI tm), .ref (d 6), .int (nI kp), .int (nI pl), .int wr])), ((d 1), .inl (G.2.1 0, 80, .inl (upd s9 6 ((s9 6) + 0))))] := hD
    refine lv_if_ne (tgt := 39) hx hb dX6_passes_29 (by decide) (fun c_5 => ?_) (fun c_5 => ?_)
    · have hrm : rmR (upd s9 6 ((s9 6) + 0)) := Decidable.byContradiction (fun z => c_5 (if_neg z))
      have hP9 := hP.sub (ws' := [((d 0), .inr (6, [.ref (d 1), .ref (d 2), .ref (d 3), .int (nI kn), .ref (d 4), .int (nI ln), .int th, .ref (d 5), .int (nI tm), .ref (d 6), .int (nI kp), .int (nI pl), .int wr])), ((d 1), .inl (G.2.1 0, 80, .inl (upd s9 6 ((s9 6) + 0))))]) [0, 1] rfl
      have hD9 := hD.sub (ws' := [((d 0), .inr (6, [.ref (d 1), .ref (d 2), .ref (d 3), .int (nI kn), .ref (d 4), .int (nI ln), .int th, .ref (d 5), .int (nI tm), .ref (d 6), .int (nI kp), .int (nI pl), .int wr])), ((d 1), .inl (G.2.1 0, 80, .inl (upd s9 6 ((s9 6) + 0))))]) [0, 1] (by decide) rfl
      exact z_vret hx hb hr hlocks (upd s9 6 ((s9 6) + 0)) hP9 hD9 hS (Nat.le_of_ble_eq_true rfl) (Nat.le_of_ble_eq_true rfl) dX6_passes_39 (paR_p ((if_pos (Int32.not_le.mp c_1)).symm) hrm)
    · have hrm : ¬ (rmR (upd s9 6 ((s9 6) + 0))) := fun z => absurd (c_5 : (if rmR (upd s9 6 ((s9 6) + 0)) then (1 : Int32) else 0) = 0) (by rw [if_pos z]; decide)
      refine lv_aload_n hx hb dX6_passes_32 rfl (lv_at hl 0 rfl) ?_
      refine va_get (D := G.1) (ci := 6) (v := .ref (d 1)) (C := RX6) (T := TX6) (N := 13) hx hb hts zi_X6_passes_X6 hown hK.1 hP 0 rfl rfl 0 (by decide) (hts _ zw_X6_passes_f7) (fun _ h9 => h9) rfl dX6_passes_33 ?_
      refine lv_iconst (v := 5) hx hb dX6_passes_36 (by decide) ?_
      refine lv_iconst (v := 0) hx hb dX6_passes_37 (by decide) ?_
      refine z_iast (k := 5) hx hb hK.1 hP hD hS 1 0 rfl rfl rfl (by omega) (by omega) dX6_passes_38 (fun H locs hP hD hS => ?_)
      have hP : va_P G.1 vwCl [((d 0), .inr (6, [.ref (d 1), .ref (d 2), .ref (d 3), .int (nI kn), .ref (d 4), .int (nI ln), .int th, .ref (d 5), .int (nI tm), .ref (d 6), .int (nI kp), .int (nI pl), .int wr])), ((d 1), .inl (G.2.1 0, 80, .inl (upd (upd s9 6 ((s9 6) + 0)) 5 0)))] H := hP
      have hD : va_D A [((d 0), .inr (6, [.ref (d 1), .ref (d 2), .ref (d 3), .int (nI kn), .ref (d 4), .int (nI ln), .int th, .ref (d 5), .int (nI tm), .ref (d 6), .int (nI kp), .int (nI pl), .int wr])), ((d 1), .inl (G.2.1 0, 80, .inl (upd (upd s9 6 ((s9 6) + 0)) 5 0)))] := hD
      have hP9 := hP.sub (ws' := [((d 0), .inr (6, [.ref (d 1), .ref (d 2), .ref (d 3), .int (nI kn), .ref (d 4), .int (nI ln), .int th, .ref (d 5), .int (nI tm), .ref (d 6), .int (nI kp), .int (nI pl), .int wr])), ((d 1), .inl (G.2.1 0, 80, .inl (upd (upd s9 6 ((s9 6) + 0)) 5 0)))]) [0, 1] rfl
      have hD9 := hD.sub (ws' := [((d 0), .inr (6, [.ref (d 1), .ref (d 2), .ref (d 3), .int (nI kn), .ref (d 4), .int (nI ln), .int th, .ref (d 5), .int (nI tm), .ref (d 6), .int (nI kp), .int (nI pl), .int wr])), ((d 1), .inl (G.2.1 0, 80, .inl (upd (upd s9 6 ((s9 6) + 0)) 5 0)))]) [0, 1] (by decide) rfl
      exact z_vret hx hb hr hlocks (upd (upd s9 6 ((s9 6) + 0)) 5 0) hP9 hD9 hS (Nat.le_of_ble_eq_true rfl) (Nat.le_of_ble_eq_true rfl) dX6_passes_39 (paR_n ((if_pos (Int32.not_le.mp c_1)).symm) hrm)
theorem zw_X6_save_f32 : Cond.fieldLink RX6 32 "LightReceiverModel" "known" "I" ∈ wsX6_save := by decide +kernel
theorem zi_X6_save_X6 : ∀ w ∈ wsX60, w ∈ wsX6_save := fun _ h => List.mem_cons_of_mem _ (List.mem_append_right _ h)
theorem zw_X6_save_f16 : Cond.fieldLink RX6 16 "LightReceiverModel" "before" "[I" ∈ wsX6_save := by decide +kernel
theorem zw_X6_save_f7 : Cond.fieldLink RX6 7 "LightReceiverModel" "s" "[I" ∈ wsX6_save := by decide +kernel
set_option maxHeartbeats 1000000 in
set_option maxRecDepth 100000 in
theorem c_X6_save (l : Launch) (G : zG) (sz : Nat) (d : Nat → Nat) (kn ln tm kp pl : Nat) (th wr : Int32) (hkn : kn ≤ 6) (s9 : zF) (sv : Nat → zF) : zMv l yX6_save wsX6_save ({ frames := 0, cells := 0, slots := 0, locals := 0 } : Room) [.ref (d 0)] G [((d 0), .inr (6, [.ref (d 1), .ref (d 2), .ref (d 3), .int (nI kn), .ref (d 4), .int (nI ln), .int th, .ref (d 5), .int (nI tm), .ref (d 6), .int (nI kp), .int (nI pl), .int wr])), ((d 1), .inl (G.2.1 0, 80, .inl s9)), ((d 3), .inl (G.2.1 0, 480, .inl (bsv sv)))] (fun (u : Nat × (Nat → zF)) => u = svF kn sv s9) (fun u => [((d 0), .inr (6, [.ref (d 1), .ref (d 2), .ref (d 3), .int (nI u.1), .ref (d 4), .int (nI ln), .int th, .ref (d 5), .int (nI tm), .ref (d 6), .int (nI kp), .int (nI pl), .int wr])), ((d 1), .inl (G.2.1 0, 80, .inl s9)), ((d 3), .inl (G.2.1 0, 480, .inl (bsv u.2)))]) sz 0 0 := by
  refine zMv_of (cc := cX6_save) (maxL := 2) (ret := none) (by decide) rfl (Nat.le_of_ble_eq_true rfl) ?_
  intro p e s m args below meth c A ls hx hb hr hml hts hown hlocks hnm hK hP hD hAe hS hA hl hsz
  have hown : s.vm.findClass RX6 = some m.cls := hown
  have hP : va_P G.1 vwCl [((d 0), .inr (6, [.ref (d 1), .ref (d 2), .ref (d 3), .int (nI kn), .ref (d 4), .int (nI ln), .int th, .ref (d 5), .int (nI tm), .ref (d 6), .int (nI kp), .int (nI pl), .int wr])), ((d 1), .inl (G.2.1 0, 80, .inl s9)), ((d 3), .inl (G.2.1 0, 480, .inl (bsv sv)))] s.heap := hP
  have hD : va_D A [((d 0), .inr (6, [.ref (d 1), .ref (d 2), .ref (d 3), .int (nI kn), .ref (d 4), .int (nI ln), .int th, .ref (d 5), .int (nI tm), .ref (d 6), .int (nI kp), .int (nI pl), .int wr])), ((d 1), .inl (G.2.1 0, 80, .inl s9)), ((d 3), .inl (G.2.1 0, 480, .inl (bsv sv)))] := hD
  have hl : lv_has ls 2 [(0, .ref (d 0))] := hl
  refine lv_aload_n hx hb dX6_save_0 rfl (lv_at hl 0 rfl) ?_
  refine va_get (D := G.1) (ci := 6) (v := .int (nI kn)) (C := RX6) (T := TX6) (N := 13) hx hb hts zi_X6_save_X6 hown hK.1 hP 0 rfl rfl 3 (by decide) (hts _ zw_X6_save_f32) (fun _ h9 => h9) rfl dX6_save_1 ?_
  refine lv_bipush (v := 6) hx hb dX6_save_4 (by decide) ?_
  refine lv_icmp_ne (tgt := 49) hx hb dX6_save_6 (by decide) (fun c_1 => ?_) (fun c_1 => ?_)
  · have hkn6 : ¬ kn = 6 := mt (z_eq (b := 6) rfl rfl (by omega) (by omega)).mpr c_1
    refine lv_iconst (v := 0) hx hb dX6_save_49 (by decide) ?_
    refine lv_istore_n (lv' := [(1, .int 0), (0, .ref (d 0))]) hx hb dX6_save_50 rfl hl (by decide) rfl (fun ls hl => ?_)
    have loop2 : ∀ (n9 : Nat) (k : Nat) (u : zF), 80 - k < n9 → (k ≤ 80) → (∀ j, j < 480 → u j = if 80 * kn ≤ j ∧ j < 80 * kn + k then s9 (j - 80 * kn) else bsv sv j) → ∀ (H : Heap) (locs : List Loc) (ls : Array Slot), va_P G.1 vwCl [((d 0), .inr (6, [.ref (d 1), .ref (d 2), .ref (d 3), .int (nI kn), .ref (d 4), .int (nI ln), .int th, .ref (d 5), .int (nI tm), .ref (d 6), .int (nI kp), .int (nI pl), .int wr])), ((d 1), .inl (G.2.1 0, 80, .inl s9)), ((d 3), .inl (G.2.1 0, 480, .inl u))] H → va_D A [((d 0), .inr (6, [.ref (d 1), .ref (d 2), .ref (d 3), .int (nI kn), .ref (d 4), .int (nI ln), .int th, .ref (d 5), .int (nI tm), .ref (d 6), .int (nI kp), .int (nI pl), .int wr])), ((d 1), .inl (G.2.1 0, 80, .inl s9)), ((d 3), .inl (G.2.1 0, 480, .inl u))] → va_S A s.heap H locs → lv_has ls 2 [(0, .ref (d 0)), (1, .int (nI k))] → W p l e ({ frames := 0, cells := 0, slots := 0, locals := 0 } : Room) s m args below meth c H locs 0 0 (MQ below (zQv G (fun (u : Nat × (Nat → zF)) => u = svF kn sv s9) (fun u => [((d 0), .inr (6, [.ref (d 1), .ref (d 2), .ref (d 3), .int (nI u.1), .ref (d 4), .int (nI ln), .int th, .ref (d 5), .int (nI tm), .ref (d 6), .int (nI kp), .int (nI pl), .int wr])), ((d 1), .inl (G.2.1 0, 80, .inl s9)), ((d 3), .inl (G.2.1 0, 480, .inl (bsv u.2)))]) A) args s 0 0 A) (F0 m 51 ls []) := by
      intro n9
      induction n9 with
      | zero =>
        intro k u hm9
        exact absurd hm9 (Nat.not_lt_zero _)
      | succ n9 ih =>
        intro k u hm9 hk9 hu H locs ls hP hD hS hl
        refine lv_iload_n hx hb dX6_save_51 rfl (lv_at hl 1 rfl) ?_
        refine lv_bipush (v := 80) hx hb dX6_save_52 (by decide) ?_
        refine lv_icmp_ge (tgt := 83) hx hb dX6_save_54 (by decide) (fun c_2 => ?_) (fun c_2 => ?_)
        · obtain rfl : k = 80 := by have := (z_le (a := 80) rfl rfl (by omega) (by omega)).mp c_2; omega
          have hP : va_P G.1 vwCl [((d 0), .inr (6, [.ref (d 1), .ref (d 2), .ref (d 3), .int (nI kn), .ref (d 4), .int (nI ln), .int th, .ref (d 5), .int (nI tm), .ref (d 6), .int (nI kp), .int (nI pl), .int wr])), ((d 1), .inl (G.2.1 0, 80, .inl s9)), ((d 3), .inl (G.2.1 0, 480, .inl (bsv (va_up sv kn s9))))] H := zP_arr (g := bsv (va_up sv kn s9)) hP 2 rfl (bsv_up hu) rfl
          have hD : va_D A [((d 0), .inr (6, [.ref (d 1), .ref (d 2), .ref (d 3), .int (nI kn), .ref (d 4), .int (nI ln), .int th, .ref (d 5), .int (nI tm), .ref (d 6), .int (nI kp), .int (nI pl), .int wr])), ((d 1), .inl (G.2.1 0, 80, .inl s9)), ((d 3), .inl (G.2.1 0, 480, .inl (bsv (va_up sv kn s9))))] := zD_arr hD 2 rfl rfl
          refine lv_aload_n hx hb dX6_save_83 rfl (lv_at hl 0 rfl) ?_
          refine lv_dup hx hb dX6_save_84 rfl ?_
          refine va_get (D := G.1) (ci := 6) (v := .int (nI kn)) (C := RX6) (T := TX6) (N := 13) hx hb hts zi_X6_save_X6 hown hK.1 hP 0 rfl rfl 3 (by decide) (hts _ zw_X6_save_f32) (fun _ h9 => h9) rfl dX6_save_85 ?_
          refine lv_iconst (v := 1) hx hb dX6_save_88 (by decide) ?_
          refine lv_iadd hx hb dX6_save_89 ?_
          refine z_top (nI_1 _) ?_
          refine va_put (D := G.1) (ci := 6) (v := .int (nI (kn + 1))) (ty := .int) (C := RX6) (T := TX6) (N := 13) hx hb hts zi_X6_save_X6 tyX6 tyX6_ok nmX6 hown hK.1 hP hD hS 0 rfl rfl 3 (by decide) (hts _ zw_X6_save_f32) (fun _ h9 => h9) rfl (by decide +kernel) rfl rfl (Nat.le_of_ble_eq_true rfl) dX6_save_90 (fun H locs hP hD hS => ?_)
          have hP : va_P G.1 vwCl [((d 0), .inr (6, [.ref (d 1), .ref (d 2), .ref (d 3), .int (nI (kn + 1)), .ref (d 4), .int (nI ln), .int th, .ref (d 5), .int (nI tm), .ref (d 6), .int (nI kp), .int (nI pl), .int wr])), ((d 1), .inl (G.2.1 0, 80, .inl s9)), ((d 3), .inl (G.2.1 0, 480, .inl (bsv (va_up sv kn s9))))] H := hP
          have hD : va_D A [((d 0), .inr (6, [.ref (d 1), .ref (d 2), .ref (d 3), .int (nI (kn + 1)), .ref (d 4), .int (nI ln), .int th, .ref (d 5), .int (nI tm), .ref (d 6), .int (nI kp), .int (nI pl), .int wr])), ((d 1), .inl (G.2.1 0, 80, .inl s9)), ((d 3), .inl (G.2.1 0, 480, .inl (bsv (va_up sv kn s9))))] := hD
          have hP9 := hP.sub (ws' := [((d 0), .inr (6, [.ref (d 1), .ref (d 2), .ref (d 3), .int (nI (kn + 1)), .ref (d 4), .int (nI ln), .int th, .ref (d 5), .int (nI tm), .ref (d 6), .int (nI kp), .int (nI pl), .int wr])), ((d 1), .inl (G.2.1 0, 80, .inl s9)), ((d 3), .inl (G.2.1 0, 480, .inl (bsv (va_up sv kn s9))))]) [0, 1, 2] rfl
          have hD9 := hD.sub (ws' := [((d 0), .inr (6, [.ref (d 1), .ref (d 2), .ref (d 3), .int (nI (kn + 1)), .ref (d 4), .int (nI ln), .int th, .ref (d 5), .int (nI tm), .ref (d 6), .int (nI kp), .int (nI pl), .int wr])), ((d 1), .inl (G.2.1 0, 80, .inl s9)), ((d 3), .inl (G.2.1 0, 480, .inl (bsv (va_up sv kn s9))))]) [0, 1, 2] (by decide) rfl
          exact z_vret hx hb hr hlocks (kn + 1, va_up sv kn s9) hP9 hD9 hS (Nat.le_of_ble_eq_true rfl) (Nat.le_of_ble_eq_true rfl) dX6_save_93 (if_neg hkn6).symm
        · have hk : k < 80 := by have := mt (z_le (a := 80) rfl rfl (by omega) (by omega)).mpr c_2; omega
          refine lv_aload_n hx hb dX6_save_57 rfl (lv_at hl 0 rfl) ?_
          refine va_get (D := G.1) (ci := 6) (v := .ref (d 3)) (C := RX6) (T := TX6) (N := 13) hx hb hts zi_X6_save_X6 hown hK.1 hP 0 rfl rfl 2 (by decide) (hts _ zw_X6_save_f16) (fun _ h9 => h9) rfl dX6_save_58 ?_
          refine lv_bipush (v := 80) hx hb dX6_save_61 (by decide) ?_
          refine lv_aload_n hx hb dX6_save_63 rfl (lv_at hl 0 rfl) ?_
          refine va_get (D := G.1) (ci := 6) (v := .int (nI kn)) (C := RX6) (T := TX6) (N := 13) hx hb hts zi_X6_save_X6 hown hK.1 hP 0 rfl rfl 3 (by decide) (hts _ zw_X6_save_f32) (fun _ h9 => h9) rfl dX6_save_64 ?_
          refine lv_imul hx hb dX6_save_67 ?_
          refine z_top (pk_mul 80 kn) ?_
          refine lv_iload_n hx hb dX6_save_68 rfl (lv_at hl 1 rfl) ?_
          refine lv_iadd hx hb dX6_save_69 ?_
          refine z_top (nI_add _ _) ?_
          refine lv_aload_n hx hb dX6_save_70 rfl (lv_at hl 0 rfl) ?_
          refine va_get (D := G.1) (ci := 6) (v := .ref (d 1)) (C := RX6) (T := TX6) (N := 13) hx hb hts zi_X6_save_X6 hown hK.1 hP 0 rfl rfl 0 (by decide) (hts _ zw_X6_save_f7) (fun _ h9 => h9) rfl dX6_save_71 ?_
          refine lv_iload_n hx hb dX6_save_74 rfl (lv_at hl 1 rfl) ?_
          refine z_iald (k := k) hx hb hK.1 hP 1 0 rfl rfl rfl (by omega) (by omega) dX6_save_75 ?_
          refine z_iast (k := (80 * kn + k)) hx hb hK.1 hP hD hS 2 0 rfl rfl rfl (by omega) (by omega) dX6_save_76 (fun H locs hP hD hS => ?_)
          have hP : va_P G.1 vwCl [((d 0), .inr (6, [.ref (d 1), .ref (d 2), .ref (d 3), .int (nI kn), .ref (d 4), .int (nI ln), .int th, .ref (d 5), .int (nI tm), .ref (d 6), .int (nI kp), .int (nI pl), .int wr])), ((d 1), .inl (G.2.1 0, 80, .inl s9)), ((d 3), .inl (G.2.1 0, 480, .inl (upd u (80 * kn + k) (s9 k))))] H := hP
          have hD : va_D A [((d 0), .inr (6, [.ref (d 1), .ref (d 2), .ref (d 3), .int (nI kn), .ref (d 4), .int (nI ln), .int th, .ref (d 5), .int (nI tm), .ref (d 6), .int (nI kp), .int (nI pl), .int wr])), ((d 1), .inl (G.2.1 0, 80, .inl s9)), ((d 3), .inl (G.2.1 0, 480, .inl (upd u (80 * kn + k) (s9 k))))] := hD
          refine lv_iinc (v := (nI (k + 1))) (lv' := [(1, .int (nI (k + 1))), (0, .ref (d 0))]) hx hb dX6_save_77 hl (k := 1) rfl (nI_1 k) (by decide) rfl (fun ls hl => ?_)
          refine lv_goto (tgt := 51) hx hb dX6_save_80 (by decide) ?_
          exact ih (k + 1) (upd u (80 * kn + k) (s9 k)) (by omega) (by omega) (fun j hj => zsv1 hu j hj) _ _ _ (hP.sub [0, 1, 2] rfl) (hD.sub [0, 1, 2] (by decide) rfl) hS (lv_sub hl [1, 0] rfl)
    exact loop2 _ 0 (bsv sv) (Nat.lt_succ_self _) (by omega) (fun j hj => (if_neg (by omega)).symm) _ _ _ (hP.sub [0, 1, 2] rfl) (hD.sub [0, 1, 2] (by decide) rfl) hS (lv_sub hl [1, 0] rfl)
  · obtain rfl : kn = 6 := (z_eq (b := 6) rfl rfl (by omega) (by omega)).mp c_1
    refine lv_iconst (v := 0) hx hb dX6_save_9 (by decide) ?_
    refine lv_istore_n (lv' := [(1, .int 0), (0, .ref (d 0))]) hx hb dX6_save_10 rfl hl (by decide) rfl (fun ls hl => ?_)
    have loop : ∀ (n9 : Nat) (k : Nat) (u : zF), 400 - k < n9 → (k ≤ 400) → (∀ j, j < 480 → u j = if j < k then bsv sv (80 + j) else bsv sv j) → ∀ (H : Heap) (locs : List Loc) (ls : Array Slot), va_P G.1 vwCl [((d 0), .inr (6, [.ref (d 1), .ref (d 2), .ref (d 3), .int (nI 6), .ref (d 4), .int (nI ln), .int th, .ref (d 5), .int (nI tm), .ref (d 6), .int (nI kp), .int (nI pl), .int wr])), ((d 1), .inl (G.2.1 0, 80, .inl s9)), ((d 3), .inl (G.2.1 0, 480, .inl u))] H → va_D A [((d 0), .inr (6, [.ref (d 1), .ref (d 2), .ref (d 3), .int (nI 6), .ref (d 4), .int (nI ln), .int th, .ref (d 5), .int (nI tm), .ref (d 6), .int (nI kp), .int (nI pl), .int wr])), ((d 1), .inl (G.2.1 0, 80, .inl s9)), ((d 3), .inl (G.2.1 0, 480, .inl u))] → va_S A s.heap H locs → lv_has ls 2 [(0, .ref (d 0)), (1, .int (nI k))] → W p l e ({ frames := 0, cells := 0, slots := 0, locals := 0 } : Room) s m args below meth c H locs 0 0 (MQ below (zQv G (fun (u : Nat × (Nat → zF)) => u = svF 6 sv s9) (fun u => [((d 0), .inr (6, [.ref (d 1), .ref (d 2), .ref (d 3), .int (nI u.1), .ref (d 4), .int (nI ln), .int th, .ref (d 5), .int (nI tm), .ref (d 6), .int (nI kp), .int (nI pl), .int wr])), ((d 1), .inl (G.2.1 0, 80, .inl s9)), ((d 3), .inl (G.2.1 0, 480, .inl (bsv u.2)))]) A) args s 0 0 A) (F0 m 11 ls []) := by
      intro n9
      induction n9 with
      | zero =>
        intro k u hm9
        exact absurd hm9 (Nat.not_lt_zero _)
      | succ n9 ih =>
        intro k u hm9 hk9 hu H locs ls hP hD hS hl
        refine lv_iload_n hx hb dX6_save_11 rfl (lv_at hl 1 rfl) ?_
        refine lv_sipush (v := 400) hx hb dX6_save_12 (by decide) ?_
        refine lv_icmp_ge (tgt := 39) hx hb dX6_save_15 (by decide) (fun c_3 => ?_) (fun c_3 => ?_)
        · obtain rfl : k = 400 := by have := (z_le (a := 400) rfl rfl (by omega) (by omega)).mp c_3; omega
          have hP : va_P G.1 vwCl [((d 0), .inr (6, [.ref (d 1), .ref (d 2), .ref (d 3), .int (nI 6), .ref (d 4), .int (nI ln), .int th, .ref (d 5), .int (nI tm), .ref (d 6), .int (nI kp), .int (nI pl), .int wr])), ((d 1), .inl (G.2.1 0, 80, .inl s9)), ((d 3), .inl (G.2.1 0, 480, .inl (bsv (shv sv))))] H := zP_arr (g := bsv (shv sv)) hP 2 rfl (bsv_sh hu) rfl
          have hD : va_D A [((d 0), .inr (6, [.ref (d 1), .ref (d 2), .ref (d 3), .int (nI 6), .ref (d 4), .int (nI ln), .int th, .ref (d 5), .int (nI tm), .ref (d 6), .int (nI kp), .int (nI pl), .int wr])), ((d 1), .inl (G.2.1 0, 80, .inl s9)), ((d 3), .inl (G.2.1 0, 480, .inl (bsv (shv sv))))] := zD_arr hD 2 rfl rfl
          refine lv_aload_n hx hb dX6_save_39 rfl (lv_at hl 0 rfl) ?_
          refine lv_dup hx hb dX6_save_40 rfl ?_
          refine va_get (D := G.1) (ci := 6) (v := .int (nI 6)) (C := RX6) (T := TX6) (N := 13) hx hb hts zi_X6_save_X6 hown hK.1 hP 0 rfl rfl 3 (by decide) (hts _ zw_X6_save_f32) (fun _ h9 => h9) rfl dX6_save_41 ?_
          refine lv_iconst (v := 1) hx hb dX6_save_44 (by decide) ?_
          refine lv_isub hx hb dX6_save_45 ?_
          refine z_top (show nI 6 - nI 1 = nI 5 from rfl) ?_
          refine va_put (D := G.1) (ci := 6) (v := .int (nI 5)) (ty := .int) (C := RX6) (T := TX6) (N := 13) hx hb hts zi_X6_save_X6 tyX6 tyX6_ok nmX6 hown hK.1 hP hD hS 0 rfl rfl 3 (by decide) (hts _ zw_X6_save_f32) (fun _ h9 => h9) rfl (by decide +kernel) rfl rfl (Nat.le_of_ble_eq_true rfl) dX6_save_46 (fun H locs hP hD hS => ?_)
          have hP : va_P G.1 vwCl [((d 0), .inr (6, [.ref (d 1), .ref (d 2), .ref (d 3), .int (nI 5), .ref (d 4), .int (nI ln), .int th, .ref (d 5), .int (nI tm), .ref (d 6), .int (nI kp), .int (nI pl), .int wr])), ((d 1), .inl (G.2.1 0, 80, .inl s9)), ((d 3), .inl (G.2.1 0, 480, .inl (bsv (shv sv))))] H := hP
          have hD : va_D A [((d 0), .inr (6, [.ref (d 1), .ref (d 2), .ref (d 3), .int (nI 5), .ref (d 4), .int (nI ln), .int th, .ref (d 5), .int (nI tm), .ref (d 6), .int (nI kp), .int (nI pl), .int wr])), ((d 1), .inl (G.2.1 0, 80, .inl s9)), ((d 3), .inl (G.2.1 0, 480, .inl (bsv (shv sv))))] := hD
          refine lv_iconst (v := 0) hx hb dX6_save_49 (by decide) ?_
          refine lv_istore_n (lv' := [(1, .int 0), (0, .ref (d 0))]) hx hb dX6_save_50 rfl hl (by decide) rfl (fun ls hl => ?_)
          have loop2 : ∀ (n9 : Nat) (k : Nat) (u : zF), 80 - k < n9 → (k ≤ 80) → (∀ j, j < 480 → u j = if 80 * 5 ≤ j ∧ j < 80 * 5 + k then s9 (j - 80 * 5) else bsv (shv sv) j) → ∀ (H : Heap) (locs : List Loc) (ls : Array Slot), va_P G.1 vwCl [((d 0), .inr (6, [.ref (d 1), .ref (d 2), .ref (d 3), .int (nI 5), .ref (d 4), .int (nI ln), .int th, .ref (d 5), .int (nI tm), .ref (d 6), .int (nI kp), .int (nI pl), .int wr])), ((d 1), .inl (G.2.1 0, 80, .inl s9)), ((d 3), .inl (G.2.1 0, 480, .inl u))] H → va_D A [((d 0), .inr (6, [.ref (d 1), .ref (d 2), .ref (d 3), .int (nI 5), .ref (d 4), .int (nI ln), .int th, .ref (d 5), .int (nI tm), .ref (d 6), .int (nI kp), .int (nI pl), .int wr])), ((d 1), .inl (G.2.1 0, 80, .inl s9)), ((d 3), .inl (G.2.1 0, 480, .inl u))] → va_S A s.heap H locs → lv_has ls 2 [(0, .ref (d 0)), (1, .int (nI k))] → W p l e ({ frames := 0, cells := 0, slots := 0, locals := 0 } : Room) s m args below meth c H locs 0 0 (MQ below (zQv G (fun (u : Nat × (Nat → zF)) => u = svF 6 sv s9) (fun u => [((d 0), .inr (6, [.ref (d 1), .ref (d 2), .ref (d 3), .int (nI u.1), .ref (d 4), .int (nI ln), .int th, .ref (d 5), .int (nI tm), .ref (d 6), .int (nI kp), .int (nI pl), .int wr])), ((d 1), .inl (G.2.1 0, 80, .inl s9)), ((d 3), .inl (G.2.1 0, 480, .inl (bsv u.2)))]) A) args s 0 0 A) (F0 m 51 ls []) := by
            intro n9
            induction n9 with
            | zero =>
              intro k u hm9
              exact absurd hm9 (Nat.not_lt_zero _)
            | succ n9 ih =>
              intro k u hm9 hk9 hu H locs ls hP hD hS hl
              refine lv_iload_n hx hb dX6_save_51 rfl (lv_at hl 1 rfl) ?_
              refine lv_bipush (v := 80) hx hb dX6_save_52 (by decide) ?_
              refine lv_icmp_ge (tgt := 83) hx hb dX6_save_54 (by decide) (fun c_4 => ?_) (fun c_4 => ?_)
              · obtain rfl : k = 80 := by have := (z_le (a := 80) rfl rfl (by omega) (by omega)).mp c_4; omega
                have hP : va_P G.1 vwCl [((d 0), .inr (6, [.ref (d 1), .ref (d 2), .ref (d 3), .int (nI 5), .ref (d 4), .int (nI ln), .int th, .ref (d 5), .int (nI tm), .ref (d 6), .int (nI kp), .int (nI pl), .int wr])), ((d 1), .inl (G.2.1 0, 80, .inl s9)), ((d 3), .inl (G.2.1 0, 480, .inl (bsv (va_up (shv sv) 5 s9))))] H := zP_arr (g := bsv (va_up (shv sv) 5 s9)) hP 2 rfl (bsv_up hu) rfl
                have hD : va_D A [((d 0), .inr (6, [.ref (d 1), .ref (d 2), .ref (d 3), .int (nI 5), .ref (d 4), .int (nI ln), .int th, .ref (d 5), .int (nI tm), .ref (d 6), .int (nI kp), .int (nI pl), .int wr])), ((d 1), .inl (G.2.1 0, 80, .inl s9)), ((d 3), .inl (G.2.1 0, 480, .inl (bsv (va_up (shv sv) 5 s9))))] := zD_arr hD 2 rfl rfl
                refine lv_aload_n hx hb dX6_save_83 rfl (lv_at hl 0 rfl) ?_
                refine lv_dup hx hb dX6_save_84 rfl ?_
                refine va_get (D := G.1) (ci := 6) (v := .int (nI 5)) (C := RX6) (T := TX6) (N := 13) hx hb hts zi_X6_save_X6 hown hK.1 hP 0 rfl rfl 3 (by decide) (hts _ zw_X6_save_f32) (fun _ h9 => h9) rfl dX6_save_85 ?_
                refine lv_iconst (v := 1) hx hb dX6_save_88 (by decide) ?_
                refine lv_iadd hx hb dX6_save_89 ?_
                refine z_top (nI_1 _) ?_
                refine va_put (D := G.1) (ci := 6) (v := .int (nI (5 + 1))) (ty := .int) (C := RX6) (T := TX6) (N := 13) hx hb hts zi_X6_save_X6 tyX6 tyX6_ok nmX6 hown hK.1 hP hD hS 0 rfl rfl 3 (by decide) (hts _ zw_X6_save_f32) (fun _ h9 => h9) rfl (by decide +kernel) rfl rfl (Nat.le_of_ble_eq_true rfl) dX6_save_90 (fun H locs hP hD hS => ?_)
                have hP : va_P G.1 vwCl [((d 0), .inr (6, [.ref (d 1), .ref (d 2), .ref (d 3), .int (nI (5 + 1)), .ref (d 4), .int (nI ln), .int th, .ref (d 5), .int (nI tm), .ref (d 6), .int (nI kp), .int (nI pl), .int wr])), ((d 1), .inl (G.2.1 0, 80, .inl s9)), ((d 3), .inl (G.2.1 0, 480, .inl (bsv (va_up (shv sv) 5 s9))))] H := hP
                have hD : va_D A [((d 0), .inr (6, [.ref (d 1), .ref (d 2), .ref (d 3), .int (nI (5 + 1)), .ref (d 4), .int (nI ln), .int th, .ref (d 5), .int (nI tm), .ref (d 6), .int (nI kp), .int (nI pl), .int wr])), ((d 1), .inl (G.2.1 0, 80, .inl s9)), ((d 3), .inl (G.2.1 0, 480, .inl (bsv (va_up (shv sv) 5 s9))))] := hD
                have hP9 := hP.sub (ws' := [((d 0), .inr (6, [.ref (d 1), .ref (d 2), .ref (d 3), .int (nI (5 + 1)), .ref (d 4), .int (nI ln), .int th, .ref (d 5), .int (nI tm), .ref (d 6), .int (nI kp), .int (nI pl), .int wr])), ((d 1), .inl (G.2.1 0, 80, .inl s9)), ((d 3), .inl (G.2.1 0, 480, .inl (bsv (va_up (shv sv) 5 s9))))]) [0, 1, 2] rfl
                have hD9 := hD.sub (ws' := [((d 0), .inr (6, [.ref (d 1), .ref (d 2), .ref (d 3), .int (nI (5 + 1)), .ref (d 4), .int (nI ln), .int th, .ref (d 5), .int (nI tm), .ref (d 6), .int (nI kp), .int (nI pl), .int wr])), ((d 1), .inl (G.2.1 0, 80, .inl s9)), ((d 3), .inl (G.2.1 0, 480, .inl (bsv (va_up (shv sv) 5 s9))))]) [0, 1, 2] (by decide) rfl
                exact z_vret hx hb hr hlocks (6, va_up (shv sv) 5 s9) hP9 hD9 hS (Nat.le_of_ble_eq_true rfl) (Nat.le_of_ble_eq_true rfl) dX6_save_93 (if_pos rfl).symm
              · have hk : k < 80 := by have := mt (z_le (a := 80) rfl rfl (by omega) (by omega)).mpr c_4; omega
                refine lv_aload_n hx hb dX6_save_57 rfl (lv_at hl 0 rfl) ?_
                refine va_get (D := G.1) (ci := 6) (v := .ref (d 3)) (C := RX6) (T := TX6) (N := 13) hx hb hts zi_X6_save_X6 hown hK.1 hP 0 rfl rfl 2 (by decide) (hts _ zw_X6_save_f16) (fun _ h9 => h9) rfl dX6_save_58 ?_
                refine lv_bipush (v := 80) hx hb dX6_save_61 (by decide) ?_
                refine lv_aload_n hx hb dX6_save_63 rfl (lv_at hl 0 rfl) ?_
                refine va_get (D := G.1) (ci := 6) (v := .int (nI 5)) (C := RX6) (T := TX6) (N := 13) hx hb hts zi_X6_save_X6 hown hK.1 hP 0 rfl rfl 3 (by decide) (hts _ zw_X6_save_f32) (fun _ h9 => h9) rfl dX6_save_64 ?_
                refine lv_imul hx hb dX6_save_67 ?_
                refine z_top (pk_mul 80 5) ?_
                refine lv_iload_n hx hb dX6_save_68 rfl (lv_at hl 1 rfl) ?_
                refine lv_iadd hx hb dX6_save_69 ?_
                refine z_top (nI_add _ _) ?_
                refine lv_aload_n hx hb dX6_save_70 rfl (lv_at hl 0 rfl) ?_
                refine va_get (D := G.1) (ci := 6) (v := .ref (d 1)) (C := RX6) (T := TX6) (N := 13) hx hb hts zi_X6_save_X6 hown hK.1 hP 0 rfl rfl 0 (by decide) (hts _ zw_X6_save_f7) (fun _ h9 => h9) rfl dX6_save_71 ?_
                refine lv_iload_n hx hb dX6_save_74 rfl (lv_at hl 1 rfl) ?_
                refine z_iald (k := k) hx hb hK.1 hP 1 0 rfl rfl rfl (by omega) (by omega) dX6_save_75 ?_
                refine z_iast (k := (80 * 5 + k)) hx hb hK.1 hP hD hS 2 0 rfl rfl rfl (by omega) (by omega) dX6_save_76 (fun H locs hP hD hS => ?_)
                have hP : va_P G.1 vwCl [((d 0), .inr (6, [.ref (d 1), .ref (d 2), .ref (d 3), .int (nI 5), .ref (d 4), .int (nI ln), .int th, .ref (d 5), .int (nI tm), .ref (d 6), .int (nI kp), .int (nI pl), .int wr])), ((d 1), .inl (G.2.1 0, 80, .inl s9)), ((d 3), .inl (G.2.1 0, 480, .inl (upd u (80 * 5 + k) (s9 k))))] H := hP
                have hD : va_D A [((d 0), .inr (6, [.ref (d 1), .ref (d 2), .ref (d 3), .int (nI 5), .ref (d 4), .int (nI ln), .int th, .ref (d 5), .int (nI tm), .ref (d 6), .int (nI kp), .int (nI pl), .int wr])), ((d 1), .inl (G.2.1 0, 80, .inl s9)), ((d 3), .inl (G.2.1 0, 480, .inl (upd u (80 * 5 + k) (s9 k))))] := hD
                refine lv_iinc (v := (nI (k + 1))) (lv' := [(1, .int (nI (k + 1))), (0, .ref (d 0))]) hx hb dX6_save_77 hl (k := 1) rfl (nI_1 k) (by decide) rfl (fun ls hl => ?_)
                refine lv_goto (tgt := 51) hx hb dX6_save_80 (by decide) ?_
                exact ih (k + 1) (upd u (80 * 5 + k) (s9 k)) (by omega) (by omega) (fun j hj => zsv1 hu j hj) _ _ _ (hP.sub [0, 1, 2] rfl) (hD.sub [0, 1, 2] (by decide) rfl) hS (lv_sub hl [1, 0] rfl)
          exact loop2 _ 0 (bsv (shv sv)) (Nat.lt_succ_self _) (by omega) (fun j hj => (if_neg (by omega)).symm) _ _ _ (hP.sub [0, 1, 2] rfl) (hD.sub [0, 1, 2] (by decide) rfl) hS (lv_sub hl [1, 0] rfl)
        · have hk : k < 400 := by have := mt (z_le (a := 400) rfl rfl (by omega) (by omega)).mpr c_3; omega
          refine lv_aload_n hx hb dX6_save_18 rfl (lv_at hl 0 rfl) ?_
          refine va_get (D := G.1) (ci := 6) (v := .ref (d 3)) (C := RX6) (T := TX6) (N := 13) hx hb hts zi_X6_save_X6 hown hK.1 hP 0 rfl rfl 2 (by decide) (hts _ zw_X6_save_f16) (fun _ h9 => h9) rfl dX6_save_19 ?_
          refine lv_iload_n hx hb dX6_save_22 rfl (lv_at hl 1 rfl) ?_
          refine lv_aload_n hx hb dX6_save_23 rfl (lv_at hl 0 rfl) ?_
          refine va_get (D := G.1) (ci := 6) (v := .ref (d 3)) (C := RX6) (T := TX6) (N := 13) hx hb hts zi_X6_save_X6 hown hK.1 hP 0 rfl rfl 2 (by decide) (hts _ zw_X6_save_f16) (fun _ h9 => h9) rfl dX6_save_24 ?_
          refine lv_bipush (v := 80) hx hb dX6_save_27 (by decide) ?_
          refine lv_iload_n hx hb dX6_save_29 rfl (lv_at hl 1 rfl) ?_
          refine lv_iadd hx hb dX6_save_30 ?_
          refine z_top (nI_add 80 k) ?_
          refine z_iald (k := (80 + k)) hx hb hK.1 hP 2 0 rfl rfl rfl (by omega) (by omega) dX6_save_31 ?_
          refine z_iast (k := k) hx hb hK.1 hP hD hS 2 0 rfl rfl rfl (by omega) (by omega) dX6_save_32 (fun H locs hP hD hS => ?_)
          have hP : va_P G.1 vwCl [((d 0), .inr (6, [.ref (d 1), .ref (d 2), .ref (d 3), .int (nI 6), .ref (d 4), .int (nI ln), .int th, .ref (d 5), .int (nI tm), .ref (d 6), .int (nI kp), .int (nI pl), .int wr])), ((d 1), .inl (G.2.1 0, 80, .inl s9)), ((d 3), .inl (G.2.1 0, 480, .inl (upd u k (u (80 + k)))))] H := hP
          have hD : va_D A [((d 0), .inr (6, [.ref (d 1), .ref (d 2), .ref (d 3), .int (nI 6), .ref (d 4), .int (nI ln), .int th, .ref (d 5), .int (nI tm), .ref (d 6), .int (nI kp), .int (nI pl), .int wr])), ((d 1), .inl (G.2.1 0, 80, .inl s9)), ((d 3), .inl (G.2.1 0, 480, .inl (upd u k (u (80 + k)))))] := hD
          refine lv_iinc (v := (nI (k + 1))) (lv' := [(1, .int (nI (k + 1))), (0, .ref (d 0))]) hx hb dX6_save_33 hl (k := 1) rfl (nI_1 k) (by decide) rfl (fun ls hl => ?_)
          refine lv_goto (tgt := 11) hx hb dX6_save_36 (by decide) ?_
          exact ih (k + 1) (upd u k (u (80 + k))) (by omega) (by omega) (fun j hj => zsh1 hu (by omega) j hj) _ _ _ (hP.sub [0, 1, 2] rfl) (hD.sub [0, 1, 2] (by decide) rfl) hS (lv_sub hl [1, 0] rfl)
    exact loop _ 0 (bsv sv) (Nat.lt_succ_self _) (by omega) (fun j hj => (if_neg (Nat.not_lt_zero j)).symm) _ _ _ (hP.sub [0, 1, 2] rfl) (hD.sub [0, 1, 2] (by decide) rfl) hS (lv_sub hl [1, 0] rfl)
end
