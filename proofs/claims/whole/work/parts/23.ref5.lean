section
theorem zw_X6_decode_f46 : Cond.fieldLink RX6 46 "LightReceiverModel" "kept" "I" ∈ wsX6_decode := by decide +kernel
theorem zi_X6_decode_X6 : ∀ w ∈ wsX60, w ∈ wsX6_decode := fun _ h => List.mem_cons_of_mem _ (List.mem_append_right _ h)
theorem zw_X6_decode_f25 : Cond.fieldLink RX6 25 "LightReceiverModel" "left" "[I" ∈ wsX6_decode := by decide +kernel
theorem zw_X6_decode_f7 : Cond.fieldLink RX6 7 "LightReceiverModel" "s" "[I" ∈ wsX6_decode := by decide +kernel
set_option maxHeartbeats 1000000 in
set_option maxRecDepth 100000 in
theorem c_X6_decode (l : Launch) (G : zG) (sz : Nat) (d : Nat → Nat) (kn ln tm kp pl : Nat) (th wr : Int32) (hkp : kp ≤ 30) (hko : kp = 0 ∨ kp % 2 = 1) (s9 f9 : zF) (c7 : Nat) (hc7 : c7 < 16) (hcr : 0 ≤ s9 3 → s9 3 = nI c7) : zMi l yX6_decode wsX6_decode ({ frames := 2, cells := 0, slots := 0, locals := 42 } : Room) [.ref (d 0)] G [((d 0), .inr (6, [.ref (d 1), .ref (d 2), .ref (d 3), .int (nI kn), .ref (d 4), .int (nI ln), .int th, .ref (d 5), .int (nI tm), .ref (d 6), .int (nI kp), .int (nI pl), .int wr])), ((d 1), .inl (G.2.1 0, 80, .inl s9)), ((d 6), .inl (G.2.1 0, 30, .inl f9))] (fun (v : Int32) (u : zF) => (v, u) = deR s9 (dec kp f9) (if kp = 21 then wF f9 9 else 0) c7) (fun u => [((d 0), .inr (6, [.ref (d 1), .ref (d 2), .ref (d 3), .int (nI kn), .ref (d 4), .int (nI ln), .int th, .ref (d 5), .int (nI tm), .ref (d 6), .int (nI kp), .int (nI pl), .int wr])), ((d 1), .inl (G.2.1 0, 80, .inl u)), ((d 6), .inl (G.2.1 0, 30, .inl f9))]) sz 0 0 := by
  refine zMi_of (cc := cX6_decode) (maxL := 6) (ret := (some .int)) (by decide) rfl (Nat.le_of_ble_eq_true rfl) ?_
  intro p e s m args below meth c A ls hx hb hr hml hts hown hlocks hnm hK hP hD hAe hS hA hl hsz
  have hown : s.vm.findClass RX6 = some m.cls := hown
  have hP : va_P G.1 vwCl [((d 0), .inr (6, [.ref (d 1), .ref (d 2), .ref (d 3), .int (nI kn), .ref (d 4), .int (nI ln), .int th, .ref (d 5), .int (nI tm), .ref (d 6), .int (nI kp), .int (nI pl), .int wr])), ((d 1), .inl (G.2.1 0, 80, .inl s9)), ((d 6), .inl (G.2.1 0, 30, .inl f9))] s.heap := hP
  have hD : va_D A [((d 0), .inr (6, [.ref (d 1), .ref (d 2), .ref (d 3), .int (nI kn), .ref (d 4), .int (nI ln), .int th, .ref (d 5), .int (nI tm), .ref (d 6), .int (nI kp), .int (nI pl), .int wr])), ((d 1), .inl (G.2.1 0, 80, .inl s9)), ((d 6), .inl (G.2.1 0, 30, .inl f9))] := hD
  have hl : lv_has ls 6 [(0, .ref (d 0))] := hl
  refine lv_aload_n hx hb dX6_decode_0 rfl (lv_at hl 0 rfl) ?_
  refine va_get (D := G.1) (ci := 6) (v := .int (nI kp)) (C := RX6) (T := TX6) (N := 13) hx hb hts zi_X6_decode_X6 hown hK.1 hP 0 rfl rfl 10 (by decide) (hts _ zw_X6_decode_f46) (fun _ h9 => h9) rfl dX6_decode_1 ?_
  refine lv_iconst (v := 1) hx hb dX6_decode_4 (by decide) ?_
  refine lv_iadd hx hb dX6_decode_5 ?_
  refine z_top (nI_1 kp) ?_
  refine lv_iconst (v := 2) hx hb dX6_decode_6 (by decide) ?_
  refine lv_idiv hx hb dX6_decode_7 (by decide) ?_
  refine z_top (pk_div (a := kp + 1) (d := 2) (by omega) (by omega) (by omega)) ?_
  refine lv_istore_n (lv' := [(1, .int (nI ((kp + 1) / 2))), (0, .ref (d 0))]) hx hb dX6_decode_8 rfl hl (by decide) rfl (fun ls hl => ?_)
  refine lv_iload_n hx hb dX6_decode_9 rfl (lv_at hl 0 rfl) ?_
  refine lv_iconst (v := 2) hx hb dX6_decode_10 (by decide) ?_
  refine lv_icmp_eq (tgt := 26) hx hb dX6_decode_11 (by decide) (fun c_1 => ?_) (fun c_1 => ?_)
  · have k3 : kp = 3 := by have := (z_eq (a := (kp + 1) / 2) (b := 2) rfl rfl (by omega) (by omega)).mp c_1; omega
    refine lv_aload_n hx hb dX6_decode_26 rfl (lv_at hl 1 rfl) ?_
    refine va_get (D := G.1) (ci := 6) (v := .ref (d 6)) (C := RX6) (T := TX6) (N := 13) hx hb hts zi_X6_decode_X6 hown hK.1 hP 0 rfl rfl 9 (by decide) (hts _ zw_X6_decode_f25) (fun _ h9 => h9) rfl dX6_decode_27 ?_
    refine lv_iconst (v := 0) hx hb dX6_decode_30 (by decide) ?_
    refine z_iald (k := 0) hx hb hK.1 hP 2 0 rfl rfl rfl (by omega) (by omega) dX6_decode_31 ?_
    refine lv_bipush (v := 10) hx hb dX6_decode_32 (by decide) ?_
    refine lv_bipush (v := 20) hx hb dX6_decode_34 (by decide) ?_
    have hPc := hP.sub (ws' := []) [] rfl
    have hDc := hD.sub (ws' := []) [] (by decide) rfl
    refine z_calli (wr := [((d 0), .inr (6, [.ref (d 1), .ref (d 2), .ref (d 3), .int (nI kn), .ref (d 4), .int (nI ln), .int th, .ref (d 5), .int (nI tm), .ref (d 6), .int (nI kp), .int (nI pl), .int wr])), ((d 1), .inl (G.2.1 0, 80, .inl s9)), ((d 6), .inl (G.2.1 0, 30, .inl f9))]) (va_runS (As := [.int (f9 0), .int 10, .int 20]) (rest := []) ⟨hx, hb, hml, hown, hts⟩ (c_X6_in l G s.heap.size (f9 0) 10 20) (va_cwS 3 hts gX6_decode_X6_in rfl rfl rfl (by decide +kernel) ⟨(Nat.le_of_ble_eq_true rfl), (Nat.le_of_ble_eq_true rfl)⟩) (zS hK hPc hDc) rfl rfl hl.1 rfl (lv_room (Nat.le_of_ble_eq_true rfl)) dX6_decode_36 ⟨(Nat.le_of_ble_eq_true rfl), (Nat.le_of_ble_eq_true rfl)⟩) hP hD hS hA [] [0, 1, 2] rfl rfl (by decide) (by decide) (fun r_2 u_2 H locs hw_2 hP hD hS => ?_)
    subst hw_2
    have hP : va_P G.1 vwCl [((d 0), .inr (6, [.ref (d 1), .ref (d 2), .ref (d 3), .int (nI kn), .ref (d 4), .int (nI ln), .int th, .ref (d 5), .int (nI tm), .ref (d 6), .int (nI kp), .int (nI pl), .int wr])), ((d 1), .inl (G.2.1 0, 80, .inl s9)), ((d 6), .inl (G.2.1 0, 30, .inl f9))] H := hP
    have hD : va_D A [((d 0), .inr (6, [.ref (d 1), .ref (d 2), .ref (d 3), .int (nI kn), .ref (d 4), .int (nI ln), .int th, .ref (d 5), .int (nI tm), .ref (d 6), .int (nI kp), .int (nI pl), .int wr])), ((d 1), .inl (G.2.1 0, 80, .inl s9)), ((d 6), .inl (G.2.1 0, 30, .inl f9))] := hD
    refine lv_if_ne (tgt := 48) hx hb dX6_decode_39 (by decide) (fun c_3 => ?_) (fun c_3 => ?_)
    · have hin : 10 ≤ (f9 0) ∧ (f9 0) ≤ 20 := Decidable.byContradiction (fun z => c_3 (if_neg z))
      refine lv_iload_n hx hb dX6_decode_48 rfl (lv_at hl 0 rfl) ?_
      refine lv_iconst (v := 2) hx hb dX6_decode_49 (by decide) ?_
      refine lv_icmp_ne (tgt := 93) hx hb dX6_decode_50 (by decide) (fun c_4 => ?_) (fun c_4 => ?_)
      · exact absurd ((z_eq (a := (kp + 1) / 2) (b := 2) rfl rfl (by omega) (by omega)).mpr (by omega)) c_4
      · have hno : ¬ (f9 0 < 10 ∨ 20 < f9 0) := fun z => z.elim (Int32.not_lt.mpr hin.1) (Int32.not_lt.mpr hin.2)
        refine lv_aload_n hx hb dX6_decode_53 rfl (lv_at hl 1 rfl) ?_
        refine va_get (D := G.1) (ci := 6) (v := .ref (d 6)) (C := RX6) (T := TX6) (N := 13) hx hb hts zi_X6_decode_X6 hown hK.1 hP 0 rfl rfl 9 (by decide) (hts _ zw_X6_decode_f25) (fun _ h9 => h9) rfl dX6_decode_54 ?_
        refine lv_iconst (v := 1) hx hb dX6_decode_57 (by decide) ?_
        refine z_iald (k := 1) hx hb hK.1 hP 2 0 rfl rfl rfl (by omega) (by omega) dX6_decode_58 ?_
        refine lv_bipush (v := 7) hx hb dX6_decode_59 (by decide) ?_
        refine lv_icmp_lt (tgt := 72) hx hb dX6_decode_61 (by decide) (fun c_5 => ?_) (fun c_5 => ?_)
        · refine lv_aload_n hx hb dX6_decode_72 rfl (lv_at hl 1 rfl) ?_
          have hPc := hP.sub (ws' := [((d 0), .inr (6, [.ref (d 1), .ref (d 2), .ref (d 3), .int (nI kn), .ref (d 4), .int (nI ln), .int th, .ref (d 5), .int (nI tm), .ref (d 6), .int (nI kp), .int (nI pl), .int wr])), ((d 1), .inl (G.2.1 0, 80, .inl s9))]) [0, 1] rfl
          have hDc := hD.sub (ws' := [((d 0), .inr (6, [.ref (d 1), .ref (d 2), .ref (d 3), .int (nI kn), .ref (d 4), .int (nI ln), .int th, .ref (d 5), .int (nI tm), .ref (d 6), .int (nI kp), .int (nI pl), .int wr])), ((d 1), .inl (G.2.1 0, 80, .inl s9))]) [0, 1] (by decide) rfl
          refine z_calli (wr := [((d 6), .inl (G.2.1 0, 30, .inl f9))]) (va_runV (As := []) (rest := []) ⟨hx, hb, hml, hown, hts⟩ (c_X6_isRemembered l G H.size d kn ln tm kp pl th wr s9) (cwV 0 hts gX6_decode_X6_isRemembered rfl rfl rfl (by decide +kernel) ⟨(Nat.le_of_ble_eq_true rfl), (Nat.le_of_ble_eq_true rfl)⟩) (zV (ci := 6) (q0 := 0) hK hPc hDc rfl rfl) rfl rfl hl.1 rfl (lv_room (Nat.le_of_ble_eq_true rfl)) dX6_decode_73 ⟨(Nat.le_of_ble_eq_true rfl), (Nat.le_of_ble_eq_true rfl)⟩) hP hD hS hA [0, 1] [2] rfl rfl (by decide) (by decide) (fun r_6 u_6 H locs hw_6 hP hD hS => ?_)
          subst hw_6
          have hP : va_P G.1 vwCl [((d 6), .inl (G.2.1 0, 30, .inl f9)), ((d 0), .inr (6, [.ref (d 1), .ref (d 2), .ref (d 3), .int (nI kn), .ref (d 4), .int (nI ln), .int th, .ref (d 5), .int (nI tm), .ref (d 6), .int (nI kp), .int (nI pl), .int wr])), ((d 1), .inl (G.2.1 0, 80, .inl s9))] H := hP
          have hD : va_D A [((d 6), .inl (G.2.1 0, 30, .inl f9)), ((d 0), .inr (6, [.ref (d 1), .ref (d 2), .ref (d 3), .int (nI kn), .ref (d 4), .int (nI ln), .int th, .ref (d 5), .int (nI tm), .ref (d 6), .int (nI kp), .int (nI pl), .int wr])), ((d 1), .inl (G.2.1 0, 80, .inl s9))] := hD
          refine lv_if_eq (tgt := 86) hx hb dX6_decode_76 (by decide) (fun c_7 => ?_) (fun c_7 => ?_)
          · have hrm : ¬ (rmR s9) := fun z => absurd c_7 (by rw [if_pos z]; decide)
            refine lv_aload_n hx hb dX6_decode_86 rfl (lv_at hl 1 rfl) ?_
            refine lv_bipush (v := 6) hx hb dX6_decode_87 (by decide) ?_
            have hPc := hP.sub (ws' := [((d 0), .inr (6, [.ref (d 1), .ref (d 2), .ref (d 3), .int (nI kn), .ref (d 4), .int (nI ln), .int th, .ref (d 5), .int (nI tm), .ref (d 6), .int (nI kp), .int (nI pl), .int wr])), ((d 1), .inl (G.2.1 0, 80, .inl s9))]) [1, 2] rfl
            have hDc := hD.sub (ws' := [((d 0), .inr (6, [.ref (d 1), .ref (d 2), .ref (d 3), .int (nI kn), .ref (d 4), .int (nI ln), .int th, .ref (d 5), .int (nI tm), .ref (d 6), .int (nI kp), .int (nI pl), .int wr])), ((d 1), .inl (G.2.1 0, 80, .inl s9))]) [1, 2] (by decide) rfl
            refine z_calli (wr := [((d 6), .inl (G.2.1 0, 30, .inl f9))]) (va_runV (As := [.int 6]) (rest := []) ⟨hx, hb, hml, hown, hts⟩ (c_X6_refuse l G H.size d kn ln tm kp pl th wr s9 6 (by omega)) (cwV 1 hts gX6_decode_X6_refuse rfl rfl rfl (by decide +kernel) ⟨(Nat.le_of_ble_eq_true rfl), (Nat.le_of_ble_eq_true rfl)⟩) (zV (ci := 6) (q0 := 0) hK hPc hDc rfl rfl) rfl rfl hl.1 rfl (lv_room (Nat.le_of_ble_eq_true rfl)) dX6_decode_89 ⟨(Nat.le_of_ble_eq_true rfl), (Nat.le_of_ble_eq_true rfl)⟩) hP hD hS hA [1, 2] [0] rfl rfl (by decide) (by decide) (fun r_8 u_8 H locs hw_8 hP hD hS => ?_)
            subst hw_8
            have hP : va_P G.1 vwCl [((d 6), .inl (G.2.1 0, 30, .inl f9)), ((d 0), .inr (6, [.ref (d 1), .ref (d 2), .ref (d 3), .int (nI kn), .ref (d 4), .int (nI ln), .int th, .ref (d 5), .int (nI tm), .ref (d 6), .int (nI kp), .int (nI pl), .int wr])), ((d 1), .inl (G.2.1 0, 80, .inl (rfF s9 6)))] H := hP
            have hD : va_D A [((d 6), .inl (G.2.1 0, 30, .inl f9)), ((d 0), .inr (6, [.ref (d 1), .ref (d 2), .ref (d 3), .int (nI kn), .ref (d 4), .int (nI ln), .int th, .ref (d 5), .int (nI tm), .ref (d 6), .int (nI kp), .int (nI pl), .int wr])), ((d 1), .inl (G.2.1 0, 80, .inl (rfF s9 6)))] := hD
            have hP9 := hP.sub (ws' := [((d 0), .inr (6, [.ref (d 1), .ref (d 2), .ref (d 3), .int (nI kn), .ref (d 4), .int (nI ln), .int th, .ref (d 5), .int (nI tm), .ref (d 6), .int (nI kp), .int (nI pl), .int wr])), ((d 1), .inl (G.2.1 0, 80, .inl (rfF s9 6))), ((d 6), .inl (G.2.1 0, 30, .inl f9))]) [1, 2, 0] rfl
            have hD9 := hD.sub (ws' := [((d 0), .inr (6, [.ref (d 1), .ref (d 2), .ref (d 3), .int (nI kn), .ref (d 4), .int (nI ln), .int th, .ref (d 5), .int (nI tm), .ref (d 6), .int (nI kp), .int (nI pl), .int wr])), ((d 1), .inl (G.2.1 0, 80, .inl (rfF s9 6))), ((d 6), .inl (G.2.1 0, 30, .inl f9))]) [1, 2, 0] (by decide) rfl
            exact z_iret hx hb hr rfl hlocks (rfF s9 6) hP9 hD9 hS (Nat.le_of_ble_eq_true rfl) (Nat.le_of_ble_eq_true rfl) dX6_decode_92 (show _ = deR s9 (dec kp f9) (if kp = 21 then wF f9 9 else 0) c7 from (deR_8n (show dec kp f9 = 8 from dec_8 k3 hno (zlt7 c_5)) hrm).symm)
          · have hrm : rmR s9 := Decidable.byContradiction (fun z => c_7 (if_neg z))
            refine lv_aload_n hx hb dX6_decode_79 rfl (lv_at hl 1 rfl) ?_
            have hPc := hP.sub (ws' := [((d 0), .inr (6, [.ref (d 1), .ref (d 2), .ref (d 3), .int (nI kn), .ref (d 4), .int (nI ln), .int th, .ref (d 5), .int (nI tm), .ref (d 6), .int (nI kp), .int (nI pl), .int wr])), ((d 1), .inl (G.2.1 0, 80, .inl s9))]) [1, 2] rfl
            have hDc := hD.sub (ws' := [((d 0), .inr (6, [.ref (d 1), .ref (d 2), .ref (d 3), .int (nI kn), .ref (d 4), .int (nI ln), .int th, .ref (d 5), .int (nI tm), .ref (d 6), .int (nI kp), .int (nI pl), .int wr])), ((d 1), .inl (G.2.1 0, 80, .inl s9))]) [1, 2] (by decide) rfl
            refine z_calli (wr := [((d 6), .inl (G.2.1 0, 30, .inl f9))]) (va_runV (As := []) (rest := []) ⟨hx, hb, hml, hown, hts⟩ (c_X6_hold0 l G H.size d kn ln tm kp pl th wr s9 c7 hc7 (hcr hrm.1)) (cwV 0 hts gX6_decode_X6_hold rfl rfl rfl (by decide +kernel) ⟨(Nat.le_of_ble_eq_true rfl), (Nat.le_of_ble_eq_true rfl)⟩) (zV (ci := 6) (q0 := 0) hK hPc hDc rfl rfl) rfl rfl hl.1 rfl (lv_room (Nat.le_of_ble_eq_true rfl)) dX6_decode_80 ⟨(Nat.le_of_ble_eq_true rfl), (Nat.le_of_ble_eq_true rfl)⟩) hP hD hS hA [1, 2] [0] rfl rfl (by decide) (by decide) (fun r_9 u_9 H locs hw_9 hP hD hS => ?_)
            obtain ⟨hv_9, hu_9⟩ := hw_9
            subst hv_9
            have hP : va_P G.1 vwCl [((d 6), .inl (G.2.1 0, 30, .inl f9)), ((d 0), .inr (6, [.ref (d 1), .ref (d 2), .ref (d 3), .int (nI kn), .ref (d 4), .int (nI ln), .int th, .ref (d 5), .int (nI tm), .ref (d 6), .int (nI kp), .int (nI pl), .int wr])), ((d 1), .inl (G.2.1 0, 80, .inl u_9))] H := hP
            have hD : va_D A [((d 6), .inl (G.2.1 0, 30, .inl f9)), ((d 0), .inr (6, [.ref (d 1), .ref (d 2), .ref (d 3), .int (nI kn), .ref (d 4), .int (nI ln), .int th, .ref (d 5), .int (nI tm), .ref (d 6), .int (nI kp), .int (nI pl), .int wr])), ((d 1), .inl (G.2.1 0, 80, .inl u_9))] := hD
            refine lv_goto (tgt := 92) hx hb dX6_decode_83 (by decide) ?_
            have hP9 := hP.sub (ws' := [((d 0), .inr (6, [.ref (d 1), .ref (d 2), .ref (d 3), .int (nI kn), .ref (d 4), .int (nI ln), .int th, .ref (d 5), .int (nI tm), .ref (d 6), .int (nI kp), .int (nI pl), .int wr])), ((d 1), .inl (G.2.1 0, 80, .inl u_9)), ((d 6), .inl (G.2.1 0, 30, .inl f9))]) [1, 2, 0] rfl
            have hD9 := hD.sub (ws' := [((d 0), .inr (6, [.ref (d 1), .ref (d 2), .ref (d 3), .int (nI kn), .ref (d 4), .int (nI ln), .int th, .ref (d 5), .int (nI tm), .ref (d 6), .int (nI kp), .int (nI pl), .int wr])), ((d 1), .inl (G.2.1 0, 80, .inl u_9)), ((d 6), .inl (G.2.1 0, 30, .inl f9))]) [1, 2, 0] (by decide) rfl
            exact z_iret hx hb hr rfl hlocks (u_9) hP9 hD9 hS (Nat.le_of_ble_eq_true rfl) (Nat.le_of_ble_eq_true rfl) dX6_decode_92 (show _ = deR s9 (dec kp f9) (if kp = 21 then wF f9 9 else 0) c7 from ((deR_8p (show dec kp f9 = 8 from dec_8 k3 hno (zlt7 c_5)) hrm).trans (by rw [hu_9])).symm)
        · refine lv_aload_n hx hb dX6_decode_64 rfl (lv_at hl 1 rfl) ?_
          refine lv_iconst (v := 3) hx hb dX6_decode_65 (by decide) ?_
          have hPc := hP.sub (ws' := [((d 0), .inr (6, [.ref (d 1), .ref (d 2), .ref (d 3), .int (nI kn), .ref (d 4), .int (nI ln), .int th, .ref (d 5), .int (nI tm), .ref (d 6), .int (nI kp), .int (nI pl), .int wr])), ((d 1), .inl (G.2.1 0, 80, .inl s9))]) [0, 1] rfl
          have hDc := hD.sub (ws' := [((d 0), .inr (6, [.ref (d 1), .ref (d 2), .ref (d 3), .int (nI kn), .ref (d 4), .int (nI ln), .int th, .ref (d 5), .int (nI tm), .ref (d 6), .int (nI kp), .int (nI pl), .int wr])), ((d 1), .inl (G.2.1 0, 80, .inl s9))]) [0, 1] (by decide) rfl
          refine z_calli (wr := [((d 6), .inl (G.2.1 0, 30, .inl f9))]) (va_runV (As := [.int 3]) (rest := []) ⟨hx, hb, hml, hown, hts⟩ (c_X6_refuse l G H.size d kn ln tm kp pl th wr s9 3 (by omega)) (cwV 1 hts gX6_decode_X6_refuse rfl rfl rfl (by decide +kernel) ⟨(Nat.le_of_ble_eq_true rfl), (Nat.le_of_ble_eq_true rfl)⟩) (zV (ci := 6) (q0 := 0) hK hPc hDc rfl rfl) rfl rfl hl.1 rfl (lv_room (Nat.le_of_ble_eq_true rfl)) dX6_decode_66 ⟨(Nat.le_of_ble_eq_true rfl), (Nat.le_of_ble_eq_true rfl)⟩) hP hD hS hA [0, 1] [2] rfl rfl (by decide) (by decide) (fun r_10 u_10 H locs hw_10 hP hD hS => ?_)
          subst hw_10
          have hP : va_P G.1 vwCl [((d 6), .inl (G.2.1 0, 30, .inl f9)), ((d 0), .inr (6, [.ref (d 1), .ref (d 2), .ref (d 3), .int (nI kn), .ref (d 4), .int (nI ln), .int th, .ref (d 5), .int (nI tm), .ref (d 6), .int (nI kp), .int (nI pl), .int wr])), ((d 1), .inl (G.2.1 0, 80, .inl (rfF s9 3)))] H := hP
          have hD : va_D A [((d 6), .inl (G.2.1 0, 30, .inl f9)), ((d 0), .inr (6, [.ref (d 1), .ref (d 2), .ref (d 3), .int (nI kn), .ref (d 4), .int (nI ln), .int th, .ref (d 5), .int (nI tm), .ref (d 6), .int (nI kp), .int (nI pl), .int wr])), ((d 1), .inl (G.2.1 0, 80, .inl (rfF s9 3)))] := hD
          refine lv_goto (tgt := 92) hx hb dX6_decode_69 (by decide) ?_
          have hP9 := hP.sub (ws' := [((d 0), .inr (6, [.ref (d 1), .ref (d 2), .ref (d 3), .int (nI kn), .ref (d 4), .int (nI ln), .int th, .ref (d 5), .int (nI tm), .ref (d 6), .int (nI kp), .int (nI pl), .int wr])), ((d 1), .inl (G.2.1 0, 80, .inl (rfF s9 3))), ((d 6), .inl (G.2.1 0, 30, .inl f9))]) [1, 2, 0] rfl
          have hD9 := hD.sub (ws' := [((d 0), .inr (6, [.ref (d 1), .ref (d 2), .ref (d 3), .int (nI kn), .ref (d 4), .int (nI ln), .int th, .ref (d 5), .int (nI tm), .ref (d 6), .int (nI kp), .int (nI pl), .int wr])), ((d 1), .inl (G.2.1 0, 80, .inl (rfF s9 3))), ((d 6), .inl (G.2.1 0, 30, .inl f9))]) [1, 2, 0] (by decide) rfl
          exact z_iret hx hb hr rfl hlocks (rfF s9 3) hP9 hD9 hS (Nat.le_of_ble_eq_true rfl) (Nat.le_of_ble_eq_true rfl) dX6_decode_92 (show _ = deR s9 (dec kp f9) (if kp = 21 then wF f9 9 else 0) c7 from (deR_r (show dec kp f9 = nI 3 from dec_3 k3 hno (z7le c_5)) (by omega)).symm)
    · have hin : ¬ (10 ≤ (f9 0) ∧ (f9 0) ≤ 20) := fun z => absurd (c_3 : (if 10 ≤ (f9 0) ∧ (f9 0) ≤ 20 then (1 : Int32) else 0) = 0) (by rw [if_pos z]; decide)
      refine lv_aload_n hx hb dX6_decode_42 rfl (lv_at hl 1 rfl) ?_
      refine lv_iconst (v := 2) hx hb dX6_decode_43 (by decide) ?_
      have hPc := hP.sub (ws' := [((d 0), .inr (6, [.ref (d 1), .ref (d 2), .ref (d 3), .int (nI kn), .ref (d 4), .int (nI ln), .int th, .ref (d 5), .int (nI tm), .ref (d 6), .int (nI kp), .int (nI pl), .int wr])), ((d 1), .inl (G.2.1 0, 80, .inl s9))]) [0, 1] rfl
      have hDc := hD.sub (ws' := [((d 0), .inr (6, [.ref (d 1), .ref (d 2), .ref (d 3), .int (nI kn), .ref (d 4), .int (nI ln), .int th, .ref (d 5), .int (nI tm), .ref (d 6), .int (nI kp), .int (nI pl), .int wr])), ((d 1), .inl (G.2.1 0, 80, .inl s9))]) [0, 1] (by decide) rfl
      refine z_calli (wr := [((d 6), .inl (G.2.1 0, 30, .inl f9))]) (va_runV (As := [.int 2]) (rest := []) ⟨hx, hb, hml, hown, hts⟩ (c_X6_refuse l G H.size d kn ln tm kp pl th wr s9 2 (by omega)) (cwV 1 hts gX6_decode_X6_refuse rfl rfl rfl (by decide +kernel) ⟨(Nat.le_of_ble_eq_true rfl), (Nat.le_of_ble_eq_true rfl)⟩) (zV (ci := 6) (q0 := 0) hK hPc hDc rfl rfl) rfl rfl hl.1 rfl (lv_room (Nat.le_of_ble_eq_true rfl)) dX6_decode_44 ⟨(Nat.le_of_ble_eq_true rfl), (Nat.le_of_ble_eq_true rfl)⟩) hP hD hS hA [0, 1] [2] rfl rfl (by decide) (by decide) (fun r_11 u_11 H locs hw_11 hP hD hS => ?_)
      subst hw_11
      have hP : va_P G.1 vwCl [((d 6), .inl (G.2.1 0, 30, .inl f9)), ((d 0), .inr (6, [.ref (d 1), .ref (d 2), .ref (d 3), .int (nI kn), .ref (d 4), .int (nI ln), .int th, .ref (d 5), .int (nI tm), .ref (d 6), .int (nI kp), .int (nI pl), .int wr])), ((d 1), .inl (G.2.1 0, 80, .inl (rfF s9 2)))] H := hP
      have hD : va_D A [((d 6), .inl (G.2.1 0, 30, .inl f9)), ((d 0), .inr (6, [.ref (d 1), .ref (d 2), .ref (d 3), .int (nI kn), .ref (d 4), .int (nI ln), .int th, .ref (d 5), .int (nI tm), .ref (d 6), .int (nI kp), .int (nI pl), .int wr])), ((d 1), .inl (G.2.1 0, 80, .inl (rfF s9 2)))] := hD
      have hP9 := hP.sub (ws' := [((d 0), .inr (6, [.ref (d 1), .ref (d 2), .ref (d 3), .int (nI kn), .ref (d 4), .int (nI ln), .int th, .ref (d 5), .int (nI tm), .ref (d 6), .int (nI kp), .int (nI pl), .int wr])), ((d 1), .inl (G.2.1 0, 80, .inl (rfF s9 2))), ((d 6), .inl (G.2.1 0, 30, .inl f9))]) [1, 2, 0] rfl
      have hD9 := hD.sub (ws' := [((d 0), .inr (6, [.ref (d 1), .ref (d 2), .ref (d 3), .int (nI kn), .ref (d 4), .int (nI ln), .int th, .ref (d 5), .int (nI tm), .ref (d 6), .int (nI kp), .int (nI pl), .int wr])), ((d 1), .inl (G.2.1 0, 80, .inl (rfF s9 2))), ((d 6), .inl (G.2.1 0, 30, .inl f9))]) [1, 2, 0] (by decide) rfl
      exact z_iret hx hb hr rfl hlocks (rfF s9 2) hP9 hD9 hS (Nat.le_of_ble_eq_true rfl) (Nat.le_of_ble_eq_true rfl) dX6_decode_47 (show _ = deR s9 (dec kp f9) (if kp = 21 then wF f9 9 else 0) c7 from (deR_r (show dec kp f9 = nI 2 from dec_2 (Or.inl k3) (zno hin)) (by omega)).symm)
  · have k3 : ¬ kp = 3 := by have := mt (z_eq (a := (kp + 1) / 2) (b := 2) rfl rfl (by omega) (by omega)).mpr c_1; omega
    refine lv_iload_n hx hb dX6_decode_14 rfl (lv_at hl 0 rfl) ?_
    refine lv_bipush (v := 11) hx hb dX6_decode_15 (by decide) ?_
    refine lv_icmp_eq (tgt := 26) hx hb dX6_decode_17 (by decide) (fun c_12 => ?_) (fun c_12 => ?_)
    · have k21 : kp = 21 := by have := (z_eq (a := (kp + 1) / 2) (b := 11) rfl rfl (by omega) (by omega)).mp c_12; omega
      refine lv_aload_n hx hb dX6_decode_26 rfl (lv_at hl 1 rfl) ?_
      refine va_get (D := G.1) (ci := 6) (v := .ref (d 6)) (C := RX6) (T := TX6) (N := 13) hx hb hts zi_X6_decode_X6 hown hK.1 hP 0 rfl rfl 9 (by decide) (hts _ zw_X6_decode_f25) (fun _ h9 => h9) rfl dX6_decode_27 ?_
      refine lv_iconst (v := 0) hx hb dX6_decode_30 (by decide) ?_
      refine z_iald (k := 0) hx hb hK.1 hP 2 0 rfl rfl rfl (by omega) (by omega) dX6_decode_31 ?_
      refine lv_bipush (v := 10) hx hb dX6_decode_32 (by decide) ?_
      refine lv_bipush (v := 20) hx hb dX6_decode_34 (by decide) ?_
      have hPc := hP.sub (ws' := []) [] rfl
      have hDc := hD.sub (ws' := []) [] (by decide) rfl
      refine z_calli (wr := [((d 0), .inr (6, [.ref (d 1), .ref (d 2), .ref (d 3), .int (nI kn), .ref (d 4), .int (nI ln), .int th, .ref (d 5), .int (nI tm), .ref (d 6), .int (nI kp), .int (nI pl), .int wr])), ((d 1), .inl (G.2.1 0, 80, .inl s9)), ((d 6), .inl (G.2.1 0, 30, .inl f9))]) (va_runS (As := [.int (f9 0), .int 10, .int 20]) (rest := []) ⟨hx, hb, hml, hown, hts⟩ (c_X6_in l G s.heap.size (f9 0) 10 20) (va_cwS 3 hts gX6_decode_X6_in rfl rfl rfl (by decide +kernel) ⟨(Nat.le_of_ble_eq_true rfl), (Nat.le_of_ble_eq_true rfl)⟩) (zS hK hPc hDc) rfl rfl hl.1 rfl (lv_room (Nat.le_of_ble_eq_true rfl)) dX6_decode_36 ⟨(Nat.le_of_ble_eq_true rfl), (Nat.le_of_ble_eq_true rfl)⟩) hP hD hS hA [] [0, 1, 2] rfl rfl (by decide) (by decide) (fun r_13 u_13 H locs hw_13 hP hD hS => ?_)
      subst hw_13
      have hP : va_P G.1 vwCl [((d 0), .inr (6, [.ref (d 1), .ref (d 2), .ref (d 3), .int (nI kn), .ref (d 4), .int (nI ln), .int th, .ref (d 5), .int (nI tm), .ref (d 6), .int (nI kp), .int (nI pl), .int wr])), ((d 1), .inl (G.2.1 0, 80, .inl s9)), ((d 6), .inl (G.2.1 0, 30, .inl f9))] H := hP
      have hD : va_D A [((d 0), .inr (6, [.ref (d 1), .ref (d 2), .ref (d 3), .int (nI kn), .ref (d 4), .int (nI ln), .int th, .ref (d 5), .int (nI tm), .ref (d 6), .int (nI kp), .int (nI pl), .int wr])), ((d 1), .inl (G.2.1 0, 80, .inl s9)), ((d 6), .inl (G.2.1 0, 30, .inl f9))] := hD
      refine lv_if_ne (tgt := 48) hx hb dX6_decode_39 (by decide) (fun c_14 => ?_) (fun c_14 => ?_)
      · have hin : 10 ≤ (f9 0) ∧ (f9 0) ≤ 20 := Decidable.byContradiction (fun z => c_14 (if_neg z))
        refine lv_iload_n hx hb dX6_decode_48 rfl (lv_at hl 0 rfl) ?_
        refine lv_iconst (v := 2) hx hb dX6_decode_49 (by decide) ?_
        refine lv_icmp_ne (tgt := 93) hx hb dX6_decode_50 (by decide) (fun c_15 => ?_) (fun c_15 => ?_)
        · have hno : ¬ (f9 0 < 10 ∨ 20 < f9 0) := fun z => z.elim (Int32.not_lt.mpr hin.1) (Int32.not_lt.mpr hin.2)
          refine lv_iconst (v := 0) hx hb dX6_decode_93 (by decide) ?_
          refine lv_istore_n (lv' := [(2, .int 0), (1, .int (nI ((kp + 1) / 2))), (0, .ref (d 0))]) hx hb dX6_decode_94 rfl hl (by decide) rfl (fun ls hl => ?_)
          refine lv_iconst (v := 0) hx hb dX6_decode_95 (by decide) ?_
          refine lv_istore_n (lv' := [(3, .int 0), (2, .int 0), (1, .int (nI ((kp + 1) / 2))), (0, .ref (d 0))]) hx hb dX6_decode_96 rfl hl (by decide) rfl (fun ls hl => ?_)
          refine lv_iconst (v := 0) hx hb dX6_decode_97 (by decide) ?_
          refine lv_istore (lv' := [(4, .int 0), (3, .int 0), (2, .int 0), (1, .int (nI ((kp + 1) / 2))), (0, .ref (d 0))]) hx hb dX6_decode_98 hl (by decide) rfl (fun ls hl => ?_)
          have loop : ∀ (n9 : Nat) (k : Nat), 9 - k < n9 → (k ≤ 9) → ∀ (H : Heap) (locs : List Loc) (ls : Array Slot), va_P G.1 vwCl [((d 0), .inr (6, [.ref (d 1), .ref (d 2), .ref (d 3), .int (nI kn), .ref (d 4), .int (nI ln), .int th, .ref (d 5), .int (nI tm), .ref (d 6), .int (nI kp), .int (nI pl), .int wr])), ((d 1), .inl (G.2.1 0, 80, .inl s9)), ((d 6), .inl (G.2.1 0, 30, .inl f9))] H → va_D A [((d 0), .inr (6, [.ref (d 1), .ref (d 2), .ref (d 3), .int (nI kn), .ref (d 4), .int (nI ln), .int th, .ref (d 5), .int (nI tm), .ref (d 6), .int (nI kp), .int (nI pl), .int wr])), ((d 1), .inl (G.2.1 0, 80, .inl s9)), ((d 6), .inl (G.2.1 0, 30, .inl f9))] → va_S A s.heap H locs → lv_has ls 6 [(0, .ref (d 0)), (1, .int (nI ((kp + 1) / 2))), (2, .int (nI (wF f9 k))), (3, .int (nI (zo f9 k))), (4, .int (nI k))] → W p l e ({ frames := 2, cells := 0, slots := 0, locals := 42 } : Room) s m args below meth c H locs 0 0 (MQ below (zQi G (fun (v : Int32) (u : zF) => (v, u) = deR s9 (dec kp f9) (if kp = 21 then wF f9 9 else 0) c7) (fun u => [((d 0), .inr (6, [.ref (d 1), .ref (d 2), .ref (d 3), .int (nI kn), .ref (d 4), .int (nI ln), .int th, .ref (d 5), .int (nI tm), .ref (d 6), .int (nI kp), .int (nI pl), .int wr])), ((d 1), .inl (G.2.1 0, 80, .inl u)), ((d 6), .inl (G.2.1 0, 30, .inl f9))]) A) args s 0 0 A) (F0 m 100 ls []) := by
            intro n9
            induction n9 with
            | zero =>
              intro k hm9
              exact absurd hm9 (Nat.not_lt_zero _)
            | succ n9 ih =>
              intro k hm9 hk9 H locs ls hP hD hS hl
              refine lv_iload hx hb dX6_decode_100 (lv_at hl 4 rfl) ?_
              refine lv_bipush (v := 9) hx hb dX6_decode_102 (by decide) ?_
              refine lv_icmp_ge (tgt := 148) hx hb dX6_decode_104 (by decide) (fun c_16 => ?_) (fun c_16 => ?_)
              · obtain rfl : k = 9 := by have := (z_le (a := 9) rfl rfl (by omega) (by omega)).mp c_16; omega
                refine lv_iload_n hx hb dX6_decode_148 rfl (lv_at hl 3 rfl) ?_
                refine lv_iconst (v := 2) hx hb dX6_decode_149 (by decide) ?_
                refine lv_irem hx hb dX6_decode_150 (by decide) ?_
                have hzo : zo f9 9 % 2 = z1 (wF f9 9) % 2 := zo_9 f9
                have hzl := zo_le f9 9
                have hw9 := wF_lt f9 9
                refine z_top (pk_rem (a := zo f9 9) (d := 2) (by omega) (by omega) (by omega)) ?_
                refine lv_iconst (v := 1) hx hb dX6_decode_151 (by decide) ?_
                refine lv_icmp_ne (tgt := 161) hx hb dX6_decode_152 (by decide) (fun c_17 => ?_) (fun c_17 => ?_)
                · refine lv_iload_n hx hb dX6_decode_161 rfl (lv_at hl 2 rfl) ?_
                  refine lv_bipush (v := 64) hx hb dX6_decode_162 (by decide) ?_
                  refine lv_idiv hx hb dX6_decode_164 (by decide) ?_
                  refine z_top (pk_div (a := wF f9 9) (d := 64) (by omega) (by omega) (by omega)) ?_
                  refine lv_aload_n hx hb dX6_decode_165 rfl (lv_at hl 0 rfl) ?_
                  refine va_get (D := G.1) (ci := 6) (v := .ref (d 1)) (C := RX6) (T := TX6) (N := 13) hx hb hts zi_X6_decode_X6 hown hK.1 hP 0 rfl rfl 0 (by decide) (hts _ zw_X6_decode_f7) (fun _ h9 => h9) rfl dX6_decode_166 ?_
                  refine lv_iconst (v := 2) hx hb dX6_decode_169 (by decide) ?_
                  refine z_iald (k := 2) hx hb hK.1 hP 1 0 rfl rfl rfl (by omega) (by omega) dX6_decode_170 ?_
                  refine lv_icmp_eq (tgt := 182) hx hb dX6_decode_171 (by decide) (fun c_18 => ?_) (fun c_18 => ?_)
                  · refine lv_aload_n hx hb dX6_decode_182 rfl (lv_at hl 0 rfl) ?_
                    refine lv_iload_n hx hb dX6_decode_183 rfl (lv_at hl 2 rfl) ?_
                    refine lv_iconst (v := 4) hx hb dX6_decode_184 (by decide) ?_
                    refine lv_idiv hx hb dX6_decode_185 (by decide) ?_
                    refine z_top (pk_div (a := wF f9 9) (d := 4) (by omega) (by omega) (by omega)) ?_
                    refine lv_bipush (v := 16) hx hb dX6_decode_186 (by decide) ?_
                    refine lv_irem hx hb dX6_decode_188 (by decide) ?_
                    refine z_top (pk_rem (a := wF f9 9 / 4) (d := 16) (by omega) (by omega) (by omega)) ?_
                    refine lv_iload_n hx hb dX6_decode_189 rfl (lv_at hl 2 rfl) ?_
                    refine lv_iconst (v := 2) hx hb dX6_decode_190 (by decide) ?_
                    refine lv_idiv hx hb dX6_decode_191 (by decide) ?_
                    refine z_top (pk_div (a := wF f9 9) (d := 2) (by omega) (by omega) (by omega)) ?_
                    refine lv_iconst (v := 2) hx hb dX6_decode_192 (by decide) ?_
                    refine lv_irem hx hb dX6_decode_193 (by decide) ?_
                    refine z_top (pk_rem (a := wF f9 9 / 2) (d := 2) (by omega) (by omega) (by omega)) ?_
                    have hPc := hP.sub (ws' := [((d 0), .inr (6, [.ref (d 1), .ref (d 2), .ref (d 3), .int (nI kn), .ref (d 4), .int (nI ln), .int th, .ref (d 5), .int (nI tm), .ref (d 6), .int (nI kp), .int (nI pl), .int wr])), ((d 1), .inl (G.2.1 0, 80, .inl s9))]) [0, 1] rfl
                    have hDc := hD.sub (ws' := [((d 0), .inr (6, [.ref (d 1), .ref (d 2), .ref (d 3), .int (nI kn), .ref (d 4), .int (nI ln), .int th, .ref (d 5), .int (nI tm), .ref (d 6), .int (nI kp), .int (nI pl), .int wr])), ((d 1), .inl (G.2.1 0, 80, .inl s9))]) [0, 1] (by decide) rfl
                    refine z_calli (wr := [((d 6), .inl (G.2.1 0, 30, .inl f9))]) (va_runV (As := [.int (nI (wF f9 9 / 4 % 16)), .int (nI (wF f9 9 / 2 % 2))]) (rest := []) ⟨hx, hb, hml, hown, hts⟩ (c_X6_accept l G H.size d kn ln tm kp pl th wr s9 c7 (wF f9 9 / 4 % 16) hc7 (by omega) hcr (nI (wF f9 9 / 2 % 2))) (cwV 2 hts gX6_decode_X6_accept rfl rfl rfl (by decide +kernel) ⟨(Nat.le_of_ble_eq_true rfl), (Nat.le_of_ble_eq_true rfl)⟩) (zV (ci := 6) (q0 := 0) hK hPc hDc rfl rfl) rfl rfl hl.1 rfl (lv_room (Nat.le_of_ble_eq_true rfl)) dX6_decode_194 ⟨(Nat.le_of_ble_eq_true rfl), (Nat.le_of_ble_eq_true rfl)⟩) hP hD hS hA [0, 1] [2] rfl rfl (by decide) (by decide) (fun r_19 u_19 H locs hw_19 hP hD hS => ?_)
                    have hP : va_P G.1 vwCl [((d 6), .inl (G.2.1 0, 30, .inl f9)), ((d 0), .inr (6, [.ref (d 1), .ref (d 2), .ref (d 3), .int (nI kn), .ref (d 4), .int (nI ln), .int th, .ref (d 5), .int (nI tm), .ref (d 6), .int (nI kp), .int (nI pl), .int wr])), ((d 1), .inl (G.2.1 0, 80, .inl u_19))] H := hP
                    have hD : va_D A [((d 6), .inl (G.2.1 0, 30, .inl f9)), ((d 0), .inr (6, [.ref (d 1), .ref (d 2), .ref (d 3), .int (nI kn), .ref (d 4), .int (nI ln), .int th, .ref (d 5), .int (nI tm), .ref (d 6), .int (nI kp), .int (nI pl), .int wr])), ((d 1), .inl (G.2.1 0, 80, .inl u_19))] := hD
                    have hP9 := hP.sub (ws' := [((d 0), .inr (6, [.ref (d 1), .ref (d 2), .ref (d 3), .int (nI kn), .ref (d 4), .int (nI ln), .int th, .ref (d 5), .int (nI tm), .ref (d 6), .int (nI kp), .int (nI pl), .int wr])), ((d 1), .inl (G.2.1 0, 80, .inl u_19)), ((d 6), .inl (G.2.1 0, 30, .inl f9))]) [1, 2, 0] rfl
                    have hD9 := hD.sub (ws' := [((d 0), .inr (6, [.ref (d 1), .ref (d 2), .ref (d 3), .int (nI kn), .ref (d 4), .int (nI ln), .int th, .ref (d 5), .int (nI tm), .ref (d 6), .int (nI kp), .int (nI pl), .int wr])), ((d 1), .inl (G.2.1 0, 80, .inl u_19)), ((d 6), .inl (G.2.1 0, 30, .inl f9))]) [1, 2, 0] (by decide) rfl
                    exact z_iret hx hb hr rfl hlocks (u_19) hP9 hD9 hS (Nat.le_of_ble_eq_true rfl) (Nat.le_of_ble_eq_true rfl) dX6_decode_197 (show _ = deR s9 (dec kp f9) (if kp = 21 then wF f9 9 else 0) c7 from ((deR_f (show dec kp f9 = 7 from dec_7 k21 hno (by have := mt (z_eq (a := zo f9 9 % 2) (b := 1) rfl rfl (by omega) (by omega)).mpr c_17; omega)) (by rw [if_pos k21]; exact c_18)).trans (by rw [if_pos k21]; exact hw_19.symm)).symm)
                  · refine lv_aload_n hx hb dX6_decode_174 rfl (lv_at hl 0 rfl) ?_
                    refine lv_iconst (v := 5) hx hb dX6_decode_175 (by decide) ?_
                    have hPc := hP.sub (ws' := [((d 0), .inr (6, [.ref (d 1), .ref (d 2), .ref (d 3), .int (nI kn), .ref (d 4), .int (nI ln), .int th, .ref (d 5), .int (nI tm), .ref (d 6), .int (nI kp), .int (nI pl), .int wr])), ((d 1), .inl (G.2.1 0, 80, .inl s9))]) [0, 1] rfl
                    have hDc := hD.sub (ws' := [((d 0), .inr (6, [.ref (d 1), .ref (d 2), .ref (d 3), .int (nI kn), .ref (d 4), .int (nI ln), .int th, .ref (d 5), .int (nI tm), .ref (d 6), .int (nI kp), .int (nI pl), .int wr])), ((d 1), .inl (G.2.1 0, 80, .inl s9))]) [0, 1] (by decide) rfl
                    refine z_calli (wr := [((d 6), .inl (G.2.1 0, 30, .inl f9))]) (va_runV (As := [.int 5]) (rest := []) ⟨hx, hb, hml, hown, hts⟩ (c_X6_refuse l G H.size d kn ln tm kp pl th wr s9 5 (by omega)) (cwV 1 hts gX6_decode_X6_refuse rfl rfl rfl (by decide +kernel) ⟨(Nat.le_of_ble_eq_true rfl), (Nat.le_of_ble_eq_true rfl)⟩) (zV (ci := 6) (q0 := 0) hK hPc hDc rfl rfl) rfl rfl hl.1 rfl (lv_room (Nat.le_of_ble_eq_true rfl)) dX6_decode_176 ⟨(Nat.le_of_ble_eq_true rfl), (Nat.le_of_ble_eq_true rfl)⟩) hP hD hS hA [0, 1] [2] rfl rfl (by decide) (by decide) (fun r_20 u_20 H locs hw_20 hP hD hS => ?_)
                    subst hw_20
                    have hP : va_P G.1 vwCl [((d 6), .inl (G.2.1 0, 30, .inl f9)), ((d 0), .inr (6, [.ref (d 1), .ref (d 2), .ref (d 3), .int (nI kn), .ref (d 4), .int (nI ln), .int th, .ref (d 5), .int (nI tm), .ref (d 6), .int (nI kp), .int (nI pl), .int wr])), ((d 1), .inl (G.2.1 0, 80, .inl (rfF s9 5)))] H := hP
                    have hD : va_D A [((d 6), .inl (G.2.1 0, 30, .inl f9)), ((d 0), .inr (6, [.ref (d 1), .ref (d 2), .ref (d 3), .int (nI kn), .ref (d 4), .int (nI ln), .int th, .ref (d 5), .int (nI tm), .ref (d 6), .int (nI kp), .int (nI pl), .int wr])), ((d 1), .inl (G.2.1 0, 80, .inl (rfF s9 5)))] := hD
                    refine lv_goto (tgt := 197) hx hb dX6_decode_179 (by decide) ?_
                    have hP9 := hP.sub (ws' := [((d 0), .inr (6, [.ref (d 1), .ref (d 2), .ref (d 3), .int (nI kn), .ref (d 4), .int (nI ln), .int th, .ref (d 5), .int (nI tm), .ref (d 6), .int (nI kp), .int (nI pl), .int wr])), ((d 1), .inl (G.2.1 0, 80, .inl (rfF s9 5))), ((d 6), .inl (G.2.1 0, 30, .inl f9))]) [1, 2, 0] rfl
                    have hD9 := hD.sub (ws' := [((d 0), .inr (6, [.ref (d 1), .ref (d 2), .ref (d 3), .int (nI kn), .ref (d 4), .int (nI ln), .int th, .ref (d 5), .int (nI tm), .ref (d 6), .int (nI kp), .int (nI pl), .int wr])), ((d 1), .inl (G.2.1 0, 80, .inl (rfF s9 5))), ((d 6), .inl (G.2.1 0, 30, .inl f9))]) [1, 2, 0] (by decide) rfl
                    exact z_iret hx hb hr rfl hlocks (rfF s9 5) hP9 hD9 hS (Nat.le_of_ble_eq_true rfl) (Nat.le_of_ble_eq_true rfl) dX6_decode_197 (show _ = deR s9 (dec kp f9) (if kp = 21 then wF f9 9 else 0) c7 from (deR_5 (show dec kp f9 = 7 from dec_7 k21 hno (by have := mt (z_eq (a := zo f9 9 % 2) (b := 1) rfl rfl (by omega) (by omega)).mpr c_17; omega)) (by rw [if_pos k21]; exact c_18)).symm)
                · refine lv_aload_n hx hb dX6_decode_155 rfl (lv_at hl 0 rfl) ?_
                  refine lv_iconst (v := 4) hx hb dX6_decode_156 (by decide) ?_
                  have hPc := hP.sub (ws' := [((d 0), .inr (6, [.ref (d 1), .ref (d 2), .ref (d 3), .int (nI kn), .ref (d 4), .int (nI ln), .int th, .ref (d 5), .int (nI tm), .ref (d 6), .int (nI kp), .int (nI pl), .int wr])), ((d 1), .inl (G.2.1 0, 80, .inl s9))]) [0, 1] rfl
                  have hDc := hD.sub (ws' := [((d 0), .inr (6, [.ref (d 1), .ref (d 2), .ref (d 3), .int (nI kn), .ref (d 4), .int (nI ln), .int th, .ref (d 5), .int (nI tm), .ref (d 6), .int (nI kp), .int (nI pl), .int wr])), ((d 1), .inl (G.2.1 0, 80, .inl s9))]) [0, 1] (by decide) rfl
                  refine z_calli (wr := [((d 6), .inl (G.2.1 0, 30, .inl f9))]) (va_runV (As := [.int 4]) (rest := []) ⟨hx, hb, hml, hown, hts⟩ (c_X6_refuse l G H.size d kn ln tm kp pl th wr s9 4 (by omega)) (cwV 1 hts gX6_decode_X6_refuse rfl rfl rfl (by decide +kernel) ⟨(Nat.le_of_ble_eq_true rfl), (Nat.le_of_ble_eq_true rfl)⟩) (zV (ci := 6) (q0 := 0) hK hPc hDc rfl rfl) rfl rfl hl.1 rfl (lv_room (Nat.le_of_ble_eq_true rfl)) dX6_decode_157 ⟨(Nat.le_of_ble_eq_true rfl), (Nat.le_of_ble_eq_true rfl)⟩) hP hD hS hA [0, 1] [2] rfl rfl (by decide) (by decide) (fun r_21 u_21 H locs hw_21 hP hD hS => ?_)
                  subst hw_21
                  have hP : va_P G.1 vwCl [((d 6), .inl (G.2.1 0, 30, .inl f9)), ((d 0), .inr (6, [.ref (d 1), .ref (d 2), .ref (d 3), .int (nI kn), .ref (d 4), .int (nI ln), .int th, .ref (d 5), .int (nI tm), .ref (d 6), .int (nI kp), .int (nI pl), .int wr])), ((d 1), .inl (G.2.1 0, 80, .inl (rfF s9 4)))] H := hP
                  have hD : va_D A [((d 6), .inl (G.2.1 0, 30, .inl f9)), ((d 0), .inr (6, [.ref (d 1), .ref (d 2), .ref (d 3), .int (nI kn), .ref (d 4), .int (nI ln), .int th, .ref (d 5), .int (nI tm), .ref (d 6), .int (nI kp), .int (nI pl), .int wr])), ((d 1), .inl (G.2.1 0, 80, .inl (rfF s9 4)))] := hD
                  have hP9 := hP.sub (ws' := [((d 0), .inr (6, [.ref (d 1), .ref (d 2), .ref (d 3), .int (nI kn), .ref (d 4), .int (nI ln), .int th, .ref (d 5), .int (nI tm), .ref (d 6), .int (nI kp), .int (nI pl), .int wr])), ((d 1), .inl (G.2.1 0, 80, .inl (rfF s9 4))), ((d 6), .inl (G.2.1 0, 30, .inl f9))]) [1, 2, 0] rfl
                  have hD9 := hD.sub (ws' := [((d 0), .inr (6, [.ref (d 1), .ref (d 2), .ref (d 3), .int (nI kn), .ref (d 4), .int (nI ln), .int th, .ref (d 5), .int (nI tm), .ref (d 6), .int (nI kp), .int (nI pl), .int wr])), ((d 1), .inl (G.2.1 0, 80, .inl (rfF s9 4))), ((d 6), .inl (G.2.1 0, 30, .inl f9))]) [1, 2, 0] (by decide) rfl
                  exact z_iret hx hb hr rfl hlocks (rfF s9 4) hP9 hD9 hS (Nat.le_of_ble_eq_true rfl) (Nat.le_of_ble_eq_true rfl) dX6_decode_160 (show _ = deR s9 (dec kp f9) (if kp = 21 then wF f9 9 else 0) c7 from (deR_r (show dec kp f9 = nI 4 from dec_4 k21 hno (by have := (z_eq (a := zo f9 9 % 2) (b := 1) rfl rfl (by omega) (by omega)).mp c_17; omega)) (by omega)).symm)
              · have hk : k < 9 := by have := mt (z_le (a := 9) rfl rfl (by omega) (by omega)).mpr c_16; omega
                refine lv_aload_n hx hb dX6_decode_107 rfl (lv_at hl 0 rfl) ?_
                refine va_get (D := G.1) (ci := 6) (v := .ref (d 6)) (C := RX6) (T := TX6) (N := 13) hx hb hts zi_X6_decode_X6 hown hK.1 hP 0 rfl rfl 9 (by decide) (hts _ zw_X6_decode_f25) (fun _ h9 => h9) rfl dX6_decode_108 ?_
                refine lv_iconst (v := 3) hx hb dX6_decode_111 (by decide) ?_
                refine lv_iconst (v := 2) hx hb dX6_decode_112 (by decide) ?_
                refine lv_iload hx hb dX6_decode_113 (lv_at hl 4 rfl) ?_
                refine lv_imul hx hb dX6_decode_115 ?_
                refine lv_iadd hx hb dX6_decode_116 ?_
                refine z_top (zx2 3 k) ?_
                refine z_iald (k := (3 + 2 * k)) hx hb hK.1 hP 2 0 rfl rfl rfl (by omega) (by omega) dX6_decode_117 ?_
                refine lv_bipush (v := 9) hx hb dX6_decode_118 (by decide) ?_
                refine lv_icmp_ge (tgt := 127) hx hb dX6_decode_120 (by decide) (fun c_22 => ?_) (fun c_22 => ?_)
                · refine lv_iconst (v := 1) hx hb dX6_decode_127 (by decide) ?_
                  refine lv_istore (lv' := [(5, .int 1), (0, .ref (d 0)), (1, .int (nI ((kp + 1) / 2))), (2, .int (nI (wF f9 k))), (3, .int (nI (zo f9 k))), (4, .int (nI k))]) hx hb dX6_decode_128 hl (by decide) rfl (fun ls hl => ?_)
                  refine lv_iconst (v := 2) hx hb dX6_decode_130 (by decide) ?_
                  refine lv_iload_n hx hb dX6_decode_131 rfl (lv_at hl 3 rfl) ?_
                  refine lv_imul hx hb dX6_decode_132 ?_
                  refine lv_iload hx hb dX6_decode_133 (lv_at hl 0 rfl) ?_
                  refine lv_iadd hx hb dX6_decode_135 ?_
                  refine z_top (show nI 2 * nI (wF f9 k) + nI 1 = nI (wF f9 (k + 1)) from (zx3 1 (wF f9 k)).trans (congrArg nI (show 2 * wF f9 k + 1 = 2 * wF f9 k + (if f9 (3 + 2 * k) ≤ 8 then 0 else 1) by rw [if_neg (fun z => absurd (zle8 z) (Int32.not_lt.mpr c_22))]))) ?_
                  refine lv_istore_n (lv' := [(2, .int (nI (wF f9 (k + 1)))), (5, .int 1), (0, .ref (d 0)), (1, .int (nI ((kp + 1) / 2))), (3, .int (nI (zo f9 k))), (4, .int (nI k))]) hx hb dX6_decode_136 rfl hl (by decide) rfl (fun ls hl => ?_)
                  refine lv_iload_n hx hb dX6_decode_137 rfl (lv_at hl 4 rfl) ?_
                  refine lv_iload hx hb dX6_decode_138 (lv_at hl 1 rfl) ?_
                  refine lv_iadd hx hb dX6_decode_140 ?_
                  refine z_top (nI_add (zo f9 k) 1) ?_
                  refine z_top (show nI (zo f9 k + 1) = nI (zo f9 (k + 1)) from congrArg nI (show zo f9 k + 1 = zo f9 k + (if f9 (3 + 2 * k) ≤ 8 then 0 else 1) by rw [if_neg (fun z => absurd (zle8 z) (Int32.not_lt.mpr c_22))])) ?_
                  refine lv_istore_n (lv' := [(3, .int (nI (zo f9 (k + 1)))), (2, .int (nI (wF f9 (k + 1)))), (5, .int 1), (0, .ref (d 0)), (1, .int (nI ((kp + 1) / 2))), (4, .int (nI k))]) hx hb dX6_decode_141 rfl hl (by decide) rfl (fun ls hl => ?_)
                  refine lv_iinc (v := (nI (k + 1))) (lv' := [(4, .int (nI (k + 1))), (3, .int (nI (zo f9 (k + 1)))), (2, .int (nI (wF f9 (k + 1)))), (5, .int 1), (0, .ref (d 0)), (1, .int (nI ((kp + 1) / 2)))]) hx hb dX6_decode_142 hl (k := 5) rfl (nI_1 k) (by decide) rfl (fun ls hl => ?_)
                  refine lv_goto (tgt := 100) hx hb dX6_decode_145 (by decide) ?_
                  exact ih (k + 1) (by omega) (by omega) _ _ _ (hP.sub [0, 1, 2] rfl) (hD.sub [0, 1, 2] (by decide) rfl) hS (lv_sub hl [4, 5, 2, 1, 0] rfl)
                · refine lv_iconst (v := 0) hx hb dX6_decode_123 (by decide) ?_
                  refine lv_goto (tgt := 128) hx hb dX6_decode_124 (by decide) ?_
                  refine lv_istore (lv' := [(5, .int 0), (0, .ref (d 0)), (1, .int (nI ((kp + 1) / 2))), (2, .int (nI (wF f9 k))), (3, .int (nI (zo f9 k))), (4, .int (nI k))]) hx hb dX6_decode_128 hl (by decide) rfl (fun ls hl => ?_)
                  refine lv_iconst (v := 2) hx hb dX6_decode_130 (by decide) ?_
                  refine lv_iload_n hx hb dX6_decode_131 rfl (lv_at hl 3 rfl) ?_
                  refine lv_imul hx hb dX6_decode_132 ?_
                  refine lv_iload hx hb dX6_decode_133 (lv_at hl 0 rfl) ?_
                  refine lv_iadd hx hb dX6_decode_135 ?_
                  refine z_top (show nI 2 * nI (wF f9 k) + nI 0 = nI (wF f9 (k + 1)) from (zx3 0 (wF f9 k)).trans (congrArg nI (show 2 * wF f9 k + 0 = 2 * wF f9 k + (if f9 (3 + 2 * k) ≤ 8 then 0 else 1) by rw [if_pos (z9le c_22)]))) ?_
                  refine lv_istore_n (lv' := [(2, .int (nI (wF f9 (k + 1)))), (5, .int 0), (0, .ref (d 0)), (1, .int (nI ((kp + 1) / 2))), (3, .int (nI (zo f9 k))), (4, .int (nI k))]) hx hb dX6_decode_136 rfl hl (by decide) rfl (fun ls hl => ?_)
                  refine lv_iload_n hx hb dX6_decode_137 rfl (lv_at hl 4 rfl) ?_
                  refine lv_iload hx hb dX6_decode_138 (lv_at hl 1 rfl) ?_
                  refine lv_iadd hx hb dX6_decode_140 ?_
                  refine z_top (nI_add (zo f9 k) 0) ?_
                  refine z_top (show nI (zo f9 k + 0) = nI (zo f9 (k + 1)) from congrArg nI (show zo f9 k + 0 = zo f9 k + (if f9 (3 + 2 * k) ≤ 8 then 0 else 1) by rw [if_pos (z9le c_22)])) ?_
                  refine lv_istore_n (lv' := [(3, .int (nI (zo f9 (k + 1)))), (2, .int (nI (wF f9 (k + 1)))), (5, .int 0), (0, .ref (d 0)), (1, .int (nI ((kp + 1) / 2))), (4, .int (nI k))]) hx hb dX6_decode_141 rfl hl (by decide) rfl (fun ls hl => ?_)
                  refine lv_iinc (v := (nI (k + 1))) (lv' := [(4, .int (nI (k + 1))), (3, .int (nI (zo f9 (k + 1)))), (2, .int (nI (wF f9 (k + 1)))), (5, .int 0), (0, .ref (d 0)), (1, .int (nI ((kp + 1) / 2)))]) hx hb dX6_decode_142 hl (k := 5) rfl (nI_1 k) (by decide) rfl (fun ls hl => ?_)
                  refine lv_goto (tgt := 100) hx hb dX6_decode_145 (by decide) ?_
                  exact ih (k + 1) (by omega) (by omega) _ _ _ (hP.sub [0, 1, 2] rfl) (hD.sub [0, 1, 2] (by decide) rfl) hS (lv_sub hl [4, 5, 2, 1, 0] rfl)
          exact loop _ 0 (Nat.lt_succ_self _) (by omega) _ _ _ (hP.sub [0, 1, 2] rfl) (hD.sub [0, 1, 2] (by decide) rfl) hS (lv_sub hl [4, 3, 2, 1, 0] rfl)
        · exact absurd ((z_eq (a := (kp + 1) / 2) (b := 2) rfl rfl (by omega) (by omega)).mp c_15) (by omega)
      · have hin : ¬ (10 ≤ (f9 0) ∧ (f9 0) ≤ 20) := fun z => absurd (c_14 : (if 10 ≤ (f9 0) ∧ (f9 0) ≤ 20 then (1 : Int32) else 0) = 0) (by rw [if_pos z]; decide)
        refine lv_aload_n hx hb dX6_decode_42 rfl (lv_at hl 1 rfl) ?_
        refine lv_iconst (v := 2) hx hb dX6_decode_43 (by decide) ?_
        have hPc := hP.sub (ws' := [((d 0), .inr (6, [.ref (d 1), .ref (d 2), .ref (d 3), .int (nI kn), .ref (d 4), .int (nI ln), .int th, .ref (d 5), .int (nI tm), .ref (d 6), .int (nI kp), .int (nI pl), .int wr])), ((d 1), .inl (G.2.1 0, 80, .inl s9))]) [0, 1] rfl
        have hDc := hD.sub (ws' := [((d 0), .inr (6, [.ref (d 1), .ref (d 2), .ref (d 3), .int (nI kn), .ref (d 4), .int (nI ln), .int th, .ref (d 5), .int (nI tm), .ref (d 6), .int (nI kp), .int (nI pl), .int wr])), ((d 1), .inl (G.2.1 0, 80, .inl s9))]) [0, 1] (by decide) rfl
        refine z_calli (wr := [((d 6), .inl (G.2.1 0, 30, .inl f9))]) (va_runV (As := [.int 2]) (rest := []) ⟨hx, hb, hml, hown, hts⟩ (c_X6_refuse l G H.size d kn ln tm kp pl th wr s9 2 (by omega)) (cwV 1 hts gX6_decode_X6_refuse rfl rfl rfl (by decide +kernel) ⟨(Nat.le_of_ble_eq_true rfl), (Nat.le_of_ble_eq_true rfl)⟩) (zV (ci := 6) (q0 := 0) hK hPc hDc rfl rfl) rfl rfl hl.1 rfl (lv_room (Nat.le_of_ble_eq_true rfl)) dX6_decode_44 ⟨(Nat.le_of_ble_eq_true rfl), (Nat.le_of_ble_eq_true rfl)⟩) hP hD hS hA [0, 1] [2] rfl rfl (by decide) (by decide) (fun r_23 u_23 H locs hw_23 hP hD hS => ?_)
        subst hw_23
        have hP : va_P G.1 vwCl [((d 6), .inl (G.2.1 0, 30, .inl f9)), ((d 0), .inr (6, [.ref (d 1), .ref (d 2), .ref (d 3), .int (nI kn), .ref (d 4), .int (nI ln), .int th, .ref (d 5), .int (nI tm), .ref (d 6), .int (nI kp), .int (nI pl), .int wr])), ((d 1), .inl (G.2.1 0, 80, .inl (rfF s9 2)))] H := hP
        have hD : va_D A [((d 6), .inl (G.2.1 0, 30, .inl f9)), ((d 0), .inr (6, [.ref (d 1), .ref (d 2), .ref (d 3), .int (nI kn), .ref (d 4), .int (nI ln), .int th, .ref (d 5), .int (nI tm), .ref (d 6), .int (nI kp), .int (nI pl), .int wr])), ((d 1), .inl (G.2.1 0, 80, .inl (rfF s9 2)))] := hD
        have hP9 := hP.sub (ws' := [((d 0), .inr (6, [.ref (d 1), .ref (d 2), .ref (d 3), .int (nI kn), .ref (d 4), .int (nI ln), .int th, .ref (d 5), .int (nI tm), .ref (d 6), .int (nI kp), .int (nI pl), .int wr])), ((d 1), .inl (G.2.1 0, 80, .inl (rfF s9 2))), ((d 6), .inl (G.2.1 0, 30, .inl f9))]) [1, 2, 0] rfl
        have hD9 := hD.sub (ws' := [((d 0), .inr (6, [.ref (d 1), .ref (d 2), .ref (d 3), .int (nI kn), .ref (d 4), .int (nI ln), .int th, .ref (d 5), .int (nI tm), .ref (d 6), .int (nI kp), .int (nI pl), .int wr])), ((d 1), .inl (G.2.1 0, 80, .inl (rfF s9 2))), ((d 6), .inl (G.2.1 0, 30, .inl f9))]) [1, 2, 0] (by decide) rfl
        exact z_iret hx hb hr rfl hlocks (rfF s9 2) hP9 hD9 hS (Nat.le_of_ble_eq_true rfl) (Nat.le_of_ble_eq_true rfl) dX6_decode_47 (show _ = deR s9 (dec kp f9) (if kp = 21 then wF f9 9 else 0) c7 from (deR_r (show dec kp f9 = nI 2 from dec_2 (Or.inr k21) (zno hin)) (by omega)).symm)
    · have k21 : ¬ kp = 21 := by have := mt (z_eq (a := (kp + 1) / 2) (b := 11) rfl rfl (by omega) (by omega)).mpr c_12; omega
      refine lv_aload_n hx hb dX6_decode_20 rfl (lv_at hl 1 rfl) ?_
      refine lv_iconst (v := 1) hx hb dX6_decode_21 (by decide) ?_
      have hPc := hP.sub (ws' := [((d 0), .inr (6, [.ref (d 1), .ref (d 2), .ref (d 3), .int (nI kn), .ref (d 4), .int (nI ln), .int th, .ref (d 5), .int (nI tm), .ref (d 6), .int (nI kp), .int (nI pl), .int wr])), ((d 1), .inl (G.2.1 0, 80, .inl s9))]) [0, 1] rfl
      have hDc := hD.sub (ws' := [((d 0), .inr (6, [.ref (d 1), .ref (d 2), .ref (d 3), .int (nI kn), .ref (d 4), .int (nI ln), .int th, .ref (d 5), .int (nI tm), .ref (d 6), .int (nI kp), .int (nI pl), .int wr])), ((d 1), .inl (G.2.1 0, 80, .inl s9))]) [0, 1] (by decide) rfl
      refine z_calli (wr := [((d 6), .inl (G.2.1 0, 30, .inl f9))]) (va_runV (As := [.int 1]) (rest := []) ⟨hx, hb, hml, hown, hts⟩ (c_X6_refuse l G s.heap.size d kn ln tm kp pl th wr s9 1 (by omega)) (cwV 1 hts gX6_decode_X6_refuse rfl rfl rfl (by decide +kernel) ⟨(Nat.le_of_ble_eq_true rfl), (Nat.le_of_ble_eq_true rfl)⟩) (zV (ci := 6) (q0 := 0) hK hPc hDc rfl rfl) rfl rfl hl.1 rfl (lv_room (Nat.le_of_ble_eq_true rfl)) dX6_decode_22 ⟨(Nat.le_of_ble_eq_true rfl), (Nat.le_of_ble_eq_true rfl)⟩) hP hD hS hA [0, 1] [2] rfl rfl (by decide) (by decide) (fun r_24 u_24 H locs hw_24 hP hD hS => ?_)
      subst hw_24
      have hP : va_P G.1 vwCl [((d 6), .inl (G.2.1 0, 30, .inl f9)), ((d 0), .inr (6, [.ref (d 1), .ref (d 2), .ref (d 3), .int (nI kn), .ref (d 4), .int (nI ln), .int th, .ref (d 5), .int (nI tm), .ref (d 6), .int (nI kp), .int (nI pl), .int wr])), ((d 1), .inl (G.2.1 0, 80, .inl (rfF s9 1)))] H := hP
      have hD : va_D A [((d 6), .inl (G.2.1 0, 30, .inl f9)), ((d 0), .inr (6, [.ref (d 1), .ref (d 2), .ref (d 3), .int (nI kn), .ref (d 4), .int (nI ln), .int th, .ref (d 5), .int (nI tm), .ref (d 6), .int (nI kp), .int (nI pl), .int wr])), ((d 1), .inl (G.2.1 0, 80, .inl (rfF s9 1)))] := hD
      have hP9 := hP.sub (ws' := [((d 0), .inr (6, [.ref (d 1), .ref (d 2), .ref (d 3), .int (nI kn), .ref (d 4), .int (nI ln), .int th, .ref (d 5), .int (nI tm), .ref (d 6), .int (nI kp), .int (nI pl), .int wr])), ((d 1), .inl (G.2.1 0, 80, .inl (rfF s9 1))), ((d 6), .inl (G.2.1 0, 30, .inl f9))]) [1, 2, 0] rfl
      have hD9 := hD.sub (ws' := [((d 0), .inr (6, [.ref (d 1), .ref (d 2), .ref (d 3), .int (nI kn), .ref (d 4), .int (nI ln), .int th, .ref (d 5), .int (nI tm), .ref (d 6), .int (nI kp), .int (nI pl), .int wr])), ((d 1), .inl (G.2.1 0, 80, .inl (rfF s9 1))), ((d 6), .inl (G.2.1 0, 30, .inl f9))]) [1, 2, 0] (by decide) rfl
      exact z_iret hx hb hr rfl hlocks (rfF s9 1) hP9 hD9 hS (Nat.le_of_ble_eq_true rfl) (Nat.le_of_ble_eq_true rfl) dX6_decode_25 (show _ = deR s9 (dec kp f9) (if kp = 21 then wF f9 9 else 0) c7 from (deR_r (show dec kp f9 = nI 1 from dec_1 k3 k21) (by omega)).symm)
end
