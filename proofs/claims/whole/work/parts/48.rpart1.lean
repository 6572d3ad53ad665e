section
set_option maxHeartbeats 8000000 in
set_option maxRecDepth 100000 in
theorem c_X6_part1 (l : Launch) (G : zG) (sz : Nat) (d : Nat → Nat) (kn ln tm kp jj : Nat) (th : Int32) (hln : ln ≤ 60) (htm : True) (s9 l9 f9 t9 : zF) (hin : okR s9) (en : Nat) (hpk : ptK t9 ln jj en) (hpe : en = peT t9 ln jj) (hen : en ≤ ln)  : zMv l yX6_part wsX6_part ({ frames := 4, cells := 0, slots := 0, locals := 91 } : Room) [.ref (d 0), .int 1] G [((d 0), .inr (6, [.ref (d 1), .ref (d 2), .ref (d 3), .int (nI kn), .ref (d 4), .int (nI ln), .int th, .ref (d 5), .int (nI tm), .ref (d 6), .int (nI kp), .int (nI jj), .int 0])), ((d 1), .inl (G.2.1 0, 80, .inl s9)), ((d 4), .inl (G.2.1 0, 60, .inl t9)), ((d 5), .inl (G.2.1 0, 30, .inl l9)), ((d 6), .inl (G.2.1 0, 30, .inl f9))] (fun (u : zF × (Nat × zF) × (Nat × zF)) => u.1 = ptR t9 ln jj s9 ∧ True) (fun u => [((d 0), .inr (6, [.ref (d 1), .ref (d 2), .ref (d 3), .int (nI kn), .ref (d 4), .int (nI ln), .int th, .ref (d 5), .int (nI u.2.1.1), .ref (d 6), .int (nI u.2.2.1), .int (nI en), .int 0])), ((d 1), .inl (G.2.1 0, 80, .inl u.1)), ((d 4), .inl (G.2.1 0, 60, .inl t9)), ((d 5), .inl (G.2.1 0, 30, .inl u.2.1.2)), ((d 6), .inl (G.2.1 0, 30, .inl u.2.2.2))]) sz 0 0 := by
  refine zMv_of (cc := cX6_part) (maxL := 6) (ret := none) (by decide) rfl (Nat.le_of_ble_eq_true rfl) ?_
  intro p e s m args below meth c A ls hx hb hr hml hts hown hlocks hnm hK hP hD hAe hS hA hl hsz
  have hown : s.vm.findClass RX6 = some m.cls := hown
  have hP : va_P G.1 vwCl [((d 0), .inr (6, [.ref (d 1), .ref (d 2), .ref (d 3), .int (nI kn), .ref (d 4), .int (nI ln), .int th, .ref (d 5), .int (nI tm), .ref (d 6), .int (nI kp), .int (nI jj), .int 0])), ((d 1), .inl (G.2.1 0, 80, .inl s9)), ((d 4), .inl (G.2.1 0, 60, .inl t9)), ((d 5), .inl (G.2.1 0, 30, .inl l9)), ((d 6), .inl (G.2.1 0, 30, .inl f9))] s.heap := hP
  have hD : va_D A [((d 0), .inr (6, [.ref (d 1), .ref (d 2), .ref (d 3), .int (nI kn), .ref (d 4), .int (nI ln), .int th, .ref (d 5), .int (nI tm), .ref (d 6), .int (nI kp), .int (nI jj), .int 0])), ((d 1), .inl (G.2.1 0, 80, .inl s9)), ((d 4), .inl (G.2.1 0, 60, .inl t9)), ((d 5), .inl (G.2.1 0, 30, .inl l9)), ((d 6), .inl (G.2.1 0, 30, .inl f9))] := hD
  have hl : lv_has ls 6 [(0, .ref (d 0)), (1, .int 1)] := hl
  have hj9 := peT_gt t9 ln jj
  have hc7 := hin.2.2
  have hjn : jj < ln := by omega
  rcases hpk with ⟨hxt, rfl, d1, d2, d3, e1, e2, e3, b1, b2, b3, b4⟩ | ⟨hxt, rfl⟩ | ⟨hxt, d1, e1, b1, b2, ⟨rfl, hno⟩ | ⟨rfl, hj2, d2, b3, e2⟩⟩ | ⟨hxt, rfl, d1, b1, e1⟩
  · refine lv_aload_n hx hb dX6_part_0 rfl (lv_at hl 0 rfl) ?_
    refine lv_bipush (v := 102) hx hb dX6_part_1 (by decide) ?_
    refine lv_bipush (v := 102) hx hb dX6_part_3 (by decide) ?_
    have hPc := hP.sub (ws' := [((d 0), .inr (6, [.ref (d 1), .ref (d 2), .ref (d 3), .int (nI kn), .ref (d 4), .int (nI ln), .int th, .ref (d 5), .int (nI tm), .ref (d 6), .int (nI kp), .int (nI jj), .int 0])), ((d 4), .inl (G.2.1 0, 60, .inl t9))]) [0, 2] rfl
    have hDc := hD.sub (ws' := [((d 0), .inr (6, [.ref (d 1), .ref (d 2), .ref (d 3), .int (nI kn), .ref (d 4), .int (nI ln), .int th, .ref (d 5), .int (nI tm), .ref (d 6), .int (nI kp), .int (nI jj), .int 0])), ((d 4), .inl (G.2.1 0, 60, .inl t9))]) [0, 2] (by decide) rfl
    refine z_calli (wr := [((d 1), .inl (G.2.1 0, 80, .inl s9)), ((d 5), .inl (G.2.1 0, 30, .inl l9)), ((d 6), .inl (G.2.1 0, 30, .inl f9))]) (va_runV (As := [.int 102, .int 102]) (rest := []) ⟨hx, hb, hml, hown, hts⟩ (c_X6_isNext l G s.heap.size d kn ln tm kp jj th 0 hln (by omega) t9 102 102) (cwV 2 hts gX6_part_X6_isNext rfl rfl rfl (by decide +kernel) ⟨(Nat.le_of_ble_eq_true rfl), (Nat.le_of_ble_eq_true rfl)⟩) (zV (ci := 6) (q0 := 0) hK hPc hDc rfl rfl) rfl rfl hl.1 rfl (lv_room (Nat.le_of_ble_eq_true rfl)) dX6_part_5 ⟨(Nat.le_of_ble_eq_true rfl), (Nat.le_of_ble_eq_true rfl)⟩) hP hD hS hA [0, 2] [1, 3, 4] rfl rfl (by decide) (by decide) (fun r_1 u_1 H locs hw_1 hP hD hS => ?_)
    have hq_1 : r_1 = 1 := hw_1.trans (if_pos (nx_yes hjn hxt))
    subst hq_1
    have hP : va_P G.1 vwCl [((d 1), .inl (G.2.1 0, 80, .inl s9)), ((d 5), .inl (G.2.1 0, 30, .inl l9)), ((d 6), .inl (G.2.1 0, 30, .inl f9)), ((d 0), .inr (6, [.ref (d 1), .ref (d 2), .ref (d 3), .int (nI kn), .ref (d 4), .int (nI ln), .int th, .ref (d 5), .int (nI tm), .ref (d 6), .int (nI kp), .int (nI jj), .int 0])), ((d 4), .inl (G.2.1 0, 60, .inl t9))] H := hP
    have hD : va_D A [((d 1), .inl (G.2.1 0, 80, .inl s9)), ((d 5), .inl (G.2.1 0, 30, .inl l9)), ((d 6), .inl (G.2.1 0, 30, .inl f9)), ((d 0), .inr (6, [.ref (d 1), .ref (d 2), .ref (d 3), .int (nI kn), .ref (d 4), .int (nI ln), .int th, .ref (d 5), .int (nI tm), .ref (d 6), .int (nI kp), .int (nI jj), .int 0])), ((d 4), .inl (G.2.1 0, 60, .inl t9))] := hD
    refine lv_if_eq (tgt := 96) hx hb dX6_part_8 (by decide) (fun c_2 => ?_) (fun c_2 => ?_)
    · exact absurd c_2 (by decide)
    · refine lv_aload_n hx hb dX6_part_11 rfl (lv_at hl 0 rfl) ?_
      refine lv_dup hx hb dX6_part_12 rfl ?_
      refine va_get (D := G.1) (ci := 6) (v := .int (nI jj)) (C := RX6) (T := TX6) (N := 13) hx hb hts zi_X6_part_X6 hown hK.1 hP 3 rfl rfl 11 (by decide) (hts _ zw_X6_part_f119) (fun _ h9 => h9) rfl dX6_part_13 ?_
      refine lv_iconst (v := 1) hx hb dX6_part_16 (by decide) ?_
      refine lv_iadd hx hb dX6_part_17 ?_
      refine z_top (nI_1 _) ?_
      refine va_put (D := G.1) (ci := 6) (v := .int (nI (jj + 1))) (ty := .int) (C := RX6) (T := TX6) (N := 13) hx hb hts zi_X6_part_X6 tyX6 tyX6_ok nmX6 hown hK.1 hP hD hS 3 rfl rfl 11 (by decide) (hts _ zw_X6_part_f119) (fun _ h9 => h9) rfl (by decide +kernel) rfl rfl (Nat.le_of_ble_eq_true rfl) dX6_part_18 (fun H locs hP hD hS => ?_)
      have hP : va_P G.1 vwCl [((d 1), .inl (G.2.1 0, 80, .inl s9)), ((d 5), .inl (G.2.1 0, 30, .inl l9)), ((d 6), .inl (G.2.1 0, 30, .inl f9)), ((d 0), .inr (6, [.ref (d 1), .ref (d 2), .ref (d 3), .int (nI kn), .ref (d 4), .int (nI ln), .int th, .ref (d 5), .int (nI tm), .ref (d 6), .int (nI kp), .int (nI (jj + 1)), .int 0])), ((d 4), .inl (G.2.1 0, 60, .inl t9))] H := hP
      have hD : va_D A [((d 1), .inl (G.2.1 0, 80, .inl s9)), ((d 5), .inl (G.2.1 0, 30, .inl l9)), ((d 6), .inl (G.2.1 0, 30, .inl f9)), ((d 0), .inr (6, [.ref (d 1), .ref (d 2), .ref (d 3), .int (nI kn), .ref (d 4), .int (nI ln), .int th, .ref (d 5), .int (nI tm), .ref (d 6), .int (nI kp), .int (nI (jj + 1)), .int 0])), ((d 4), .inl (G.2.1 0, 60, .inl t9))] := hD
      refine lv_aload_n hx hb dX6_part_21 rfl (lv_at hl 0 rfl) ?_
      refine lv_bipush (v := 48) hx hb dX6_part_22 (by decide) ?_
      refine lv_bipush (v := 49) hx hb dX6_part_24 (by decide) ?_
      have hPc := hP.sub (ws' := [((d 0), .inr (6, [.ref (d 1), .ref (d 2), .ref (d 3), .int (nI kn), .ref (d 4), .int (nI ln), .int th, .ref (d 5), .int (nI tm), .ref (d 6), .int (nI kp), .int (nI (jj + 1)), .int 0])), ((d 4), .inl (G.2.1 0, 60, .inl t9))]) [3, 4] rfl
      have hDc := hD.sub (ws' := [((d 0), .inr (6, [.ref (d 1), .ref (d 2), .ref (d 3), .int (nI kn), .ref (d 4), .int (nI ln), .int th, .ref (d 5), .int (nI tm), .ref (d 6), .int (nI kp), .int (nI (jj + 1)), .int 0])), ((d 4), .inl (G.2.1 0, 60, .inl t9))]) [3, 4] (by decide) rfl
      refine z_calli (wr := [((d 1), .inl (G.2.1 0, 80, .inl s9)), ((d 5), .inl (G.2.1 0, 30, .inl l9)), ((d 6), .inl (G.2.1 0, 30, .inl f9))]) (va_runV (As := [.int 48, .int 49]) (rest := []) ⟨hx, hb, hml, hown, hts⟩ (c_X6_sign l G H.size d kn ln tm kp (jj + 1) th 0 hln (by omega) t9 48 49) (cwV 2 hts gX6_part_X6_sign rfl rfl rfl (by decide +kernel) ⟨(Nat.le_of_ble_eq_true rfl), (Nat.le_of_ble_eq_true rfl)⟩) (zV (ci := 6) (q0 := 0) hK hPc hDc rfl rfl) rfl rfl hl.1 rfl (lv_room (Nat.le_of_ble_eq_true rfl)) dX6_part_26 ⟨(Nat.le_of_ble_eq_true rfl), (Nat.le_of_ble_eq_true rfl)⟩) hP hD hS hA [3, 4] [0, 1, 2] rfl rfl (by decide) (by decide) (fun r_3 u_3 H locs hw_3 hP hD hS => ?_)
      obtain ⟨hv_3, hu_3⟩ := hw_3
      have hq_3 : r_3 = (nI (48 + d1)) := hv_3.trans ((sgV_lt (by omega)).trans e1)
      have hg_3 : u_3 = ((jj + 1) + 1, 0) := hu_3.trans (sgF_ok (by omega) (dg_in (l := 48) (b := 49) rfl rfl e1 (by omega) (by omega) (by omega)))
      subst hq_3
      subst hg_3
      have hP : va_P G.1 vwCl [((d 1), .inl (G.2.1 0, 80, .inl s9)), ((d 5), .inl (G.2.1 0, 30, .inl l9)), ((d 6), .inl (G.2.1 0, 30, .inl f9)), ((d 0), .inr (6, [.ref (d 1), .ref (d 2), .ref (d 3), .int (nI kn), .ref (d 4), .int (nI ln), .int th, .ref (d 5), .int (nI tm), .ref (d 6), .int (nI kp), .int (nI ((jj + 1) + 1)), .int 0])), ((d 4), .inl (G.2.1 0, 60, .inl t9))] H := hP
      have hD : va_D A [((d 1), .inl (G.2.1 0, 80, .inl s9)), ((d 5), .inl (G.2.1 0, 30, .inl l9)), ((d 6), .inl (G.2.1 0, 30, .inl f9)), ((d 0), .inr (6, [.ref (d 1), .ref (d 2), .ref (d 3), .int (nI kn), .ref (d 4), .int (nI ln), .int th, .ref (d 5), .int (nI tm), .ref (d 6), .int (nI kp), .int (nI ((jj + 1) + 1)), .int 0])), ((d 4), .inl (G.2.1 0, 60, .inl t9))] := hD
      refine lv_bipush (v := 48) hx hb dX6_part_29 (by decide) ?_
      refine lv_isub hx hb dX6_part_31 ?_
      refine z_top (dgI rfl) ?_
      refine lv_istore_n (lv' := [(2, .int (nI d1)), (0, .ref (d 0)), (1, .int 1)]) hx hb dX6_part_32 rfl hl (by decide) rfl (fun ls hl => ?_)
      refine lv_aload_n hx hb dX6_part_33 rfl (lv_at hl 1 rfl) ?_
      refine lv_bipush (v := 48) hx hb dX6_part_34 (by decide) ?_
      refine lv_iload_n hx hb dX6_part_36 rfl (lv_at hl 0 rfl) ?_
      refine lv_iconst (v := 1) hx hb dX6_part_37 (by decide) ?_
      refine lv_icmp_ne (tgt := 46) hx hb dX6_part_38 (by decide) (fun c_4 => ?_) (fun c_4 => ?_)
      · have hd1 : d1 = 0 := by have := mt (z_eq (a := d1) (b := 1) rfl rfl (by omega) (by omega)).mpr c_4; omega
        refine lv_bipush (v := 57) hx hb dX6_part_46 (by decide) ?_
        have hPc := hP.sub (ws' := [((d 0), .inr (6, [.ref (d 1), .ref (d 2), .ref (d 3), .int (nI kn), .ref (d 4), .int (nI ln), .int th, .ref (d 5), .int (nI tm), .ref (d 6), .int (nI kp), .int (nI ((jj + 1) + 1)), .int 0])), ((d 4), .inl (G.2.1 0, 60, .inl t9))]) [3, 4] rfl
        have hDc := hD.sub (ws' := [((d 0), .inr (6, [.ref (d 1), .ref (d 2), .ref (d 3), .int (nI kn), .ref (d 4), .int (nI ln), .int th, .ref (d 5), .int (nI tm), .ref (d 6), .int (nI kp), .int (nI ((jj + 1) + 1)), .int 0])), ((d 4), .inl (G.2.1 0, 60, .inl t9))]) [3, 4] (by decide) rfl
        refine z_calli (wr := [((d 1), .inl (G.2.1 0, 80, .inl s9)), ((d 5), .inl (G.2.1 0, 30, .inl l9)), ((d 6), .inl (G.2.1 0, 30, .inl f9))]) (va_runV (As := [.int 48, .int 57]) (rest := []) ⟨hx, hb, hml, hown, hts⟩ (c_X6_sign l G H.size d kn ln tm kp ((jj + 1) + 1) th 0 hln (by omega) t9 48 57) (cwV 2 hts gX6_part_X6_sign rfl rfl rfl (by decide +kernel) ⟨(Nat.le_of_ble_eq_true rfl), (Nat.le_of_ble_eq_true rfl)⟩) (zV (ci := 6) (q0 := 0) hK hPc hDc rfl rfl) rfl rfl hl.1 rfl (lv_room (Nat.le_of_ble_eq_true rfl)) dX6_part_48 ⟨(Nat.le_of_ble_eq_true rfl), (Nat.le_of_ble_eq_true rfl)⟩) hP hD hS hA [3, 4] [0, 1, 2] rfl rfl (by decide) (by decide) (fun r_5 u_5 H locs hw_5 hP hD hS => ?_)
        obtain ⟨hv_5, hu_5⟩ := hw_5
        have hq_5 : r_5 = (nI (48 + d2)) := hv_5.trans ((sgV_lt (by omega)).trans e2)
        have hg_5 : u_5 = (((jj + 1) + 1) + 1, 0) := hu_5.trans (sgF_ok (by omega) (dg_in (l := 48) (b := 57) rfl rfl e2 (by omega) (by omega) (by omega)))
        subst hq_5
        subst hg_5
        have hP : va_P G.1 vwCl [((d 1), .inl (G.2.1 0, 80, .inl s9)), ((d 5), .inl (G.2.1 0, 30, .inl l9)), ((d 6), .inl (G.2.1 0, 30, .inl f9)), ((d 0), .inr (6, [.ref (d 1), .ref (d 2), .ref (d 3), .int (nI kn), .ref (d 4), .int (nI ln), .int th, .ref (d 5), .int (nI tm), .ref (d 6), .int (nI kp), .int (nI (((jj + 1) + 1) + 1)), .int 0])), ((d 4), .inl (G.2.1 0, 60, .inl t9))] H := hP
        have hD : va_D A [((d 1), .inl (G.2.1 0, 80, .inl s9)), ((d 5), .inl (G.2.1 0, 30, .inl l9)), ((d 6), .inl (G.2.1 0, 30, .inl f9)), ((d 0), .inr (6, [.ref (d 1), .ref (d 2), .ref (d 3), .int (nI kn), .ref (d 4), .int (nI ln), .int th, .ref (d 5), .int (nI tm), .ref (d 6), .int (nI kp), .int (nI (((jj + 1) + 1) + 1)), .int 0])), ((d 4), .inl (G.2.1 0, 60, .inl t9))] := hD
        refine lv_bipush (v := 48) hx hb dX6_part_51 (by decide) ?_
        refine lv_isub hx hb dX6_part_53 ?_
        refine z_top (dgI rfl) ?_
        refine lv_istore_n (lv' := [(3, .int (nI d2)), (2, .int (nI d1)), (0, .ref (d 0)), (1, .int 1)]) hx hb dX6_part_54 rfl hl (by decide) rfl (fun ls hl => ?_)
        refine lv_aload_n hx hb dX6_part_55 rfl (lv_at hl 2 rfl) ?_
        refine lv_bipush (v := 48) hx hb dX6_part_56 (by decide) ?_
        refine lv_bipush (v := 49) hx hb dX6_part_58 (by decide) ?_
        have hPc := hP.sub (ws' := [((d 0), .inr (6, [.ref (d 1), .ref (d 2), .ref (d 3), .int (nI kn), .ref (d 4), .int (nI ln), .int th, .ref (d 5), .int (nI tm), .ref (d 6), .int (nI kp), .int (nI (((jj + 1) + 1) + 1)), .int 0])), ((d 4), .inl (G.2.1 0, 60, .inl t9))]) [3, 4] rfl
        have hDc := hD.sub (ws' := [((d 0), .inr (6, [.ref (d 1), .ref (d 2), .ref (d 3), .int (nI kn), .ref (d 4), .int (nI ln), .int th, .ref (d 5), .int (nI tm), .ref (d 6), .int (nI kp), .int (nI (((jj + 1) + 1) + 1)), .int 0])), ((d 4), .inl (G.2.1 0, 60, .inl t9))]) [3, 4] (by decide) rfl
        refine z_calli (wr := [((d 1), .inl (G.2.1 0, 80, .inl s9)), ((d 5), .inl (G.2.1 0, 30, .inl l9)), ((d 6), .inl (G.2.1 0, 30, .inl f9))]) (va_runV (As := [.int 48, .int 49]) (rest := []) ⟨hx, hb, hml, hown, hts⟩ (c_X6_sign l G H.size d kn ln tm kp (((jj + 1) + 1) + 1) th 0 hln (by omega) t9 48 49) (cwV 2 hts gX6_part_X6_sign rfl rfl rfl (by decide +kernel) ⟨(Nat.le_of_ble_eq_true rfl), (Nat.le_of_ble_eq_true rfl)⟩) (zV (ci := 6) (q0 := 0) hK hPc hDc rfl rfl) rfl rfl hl.1 rfl (lv_room (Nat.le_of_ble_eq_true rfl)) dX6_part_60 ⟨(Nat.le_of_ble_eq_true rfl), (Nat.le_of_ble_eq_true rfl)⟩) hP hD hS hA [3, 4] [0, 1, 2] rfl rfl (by decide) (by decide) (fun r_6 u_6 H locs hw_6 hP hD hS => ?_)
        obtain ⟨hv_6, hu_6⟩ := hw_6
        have hq_6 : r_6 = (nI (48 + d3)) := hv_6.trans ((sgV_lt (by omega)).trans e3)
        have hg_6 : u_6 = ((((jj + 1) + 1) + 1) + 1, 0) := hu_6.trans (sgF_ok (by omega) (dg_in (l := 48) (b := 49) rfl rfl e3 (by omega) (by omega) (by omega)))
        subst hq_6
        subst hg_6
        have hP : va_P G.1 vwCl [((d 1), .inl (G.2.1 0, 80, .inl s9)), ((d 5), .inl (G.2.1 0, 30, .inl l9)), ((d 6), .inl (G.2.1 0, 30, .inl f9)), ((d 0), .inr (6, [.ref (d 1), .ref (d 2), .ref (d 3), .int (nI kn), .ref (d 4), .int (nI ln), .int th, .ref (d 5), .int (nI tm), .ref (d 6), .int (nI kp), .int (nI ((((jj + 1) + 1) + 1) + 1)), .int 0])), ((d 4), .inl (G.2.1 0, 60, .inl t9))] H := hP
        have hD : va_D A [((d 1), .inl (G.2.1 0, 80, .inl s9)), ((d 5), .inl (G.2.1 0, 30, .inl l9)), ((d 6), .inl (G.2.1 0, 30, .inl f9)), ((d 0), .inr (6, [.ref (d 1), .ref (d 2), .ref (d 3), .int (nI kn), .ref (d 4), .int (nI ln), .int th, .ref (d 5), .int (nI tm), .ref (d 6), .int (nI kp), .int (nI ((((jj + 1) + 1) + 1) + 1)), .int 0])), ((d 4), .inl (G.2.1 0, 60, .inl t9))] := hD
        refine lv_bipush (v := 48) hx hb dX6_part_63 (by decide) ?_
        refine lv_isub hx hb dX6_part_65 ?_
        refine z_top (dgI rfl) ?_
        refine lv_istore (lv' := [(4, .int (nI d3)), (3, .int (nI d2)), (2, .int (nI d1)), (0, .ref (d 0)), (1, .int 1)]) hx hb dX6_part_66 hl (by decide) rfl (fun ls hl => ?_)
        refine lv_iload_n hx hb dX6_part_68 rfl (lv_at hl 4 rfl) ?_
        refine lv_if_eq (tgt := 93) hx hb dX6_part_69 (by decide) (fun c_7 => ?_) (fun c_7 => ?_)
        · exact absurd c_7 (by decide)
        · refine lv_aload_n hx hb dX6_part_72 rfl (lv_at hl 3 rfl) ?_
          refine lv_iconst (v := 0) hx hb dX6_part_73 (by decide) ?_
          refine lv_bipush (v := 10) hx hb dX6_part_74 (by decide) ?_
          refine lv_iload_n hx hb dX6_part_76 rfl (lv_at hl 2 rfl) ?_
          refine lv_imul hx hb dX6_part_77 ?_
          refine z_top (show 10 * nI d1 = nI (10 * d1) from pk_mul 10 d1) ?_
          refine lv_iload_n hx hb dX6_part_78 rfl (lv_at hl 1 rfl) ?_
          refine lv_iadd hx hb dX6_part_79 ?_
          refine z_top (nI_add _ _) ?_
          refine lv_iload hx hb dX6_part_80 (lv_at hl 0 rfl) ?_
          have hPc := hP.sub (ws' := [((d 0), .inr (6, [.ref (d 1), .ref (d 2), .ref (d 3), .int (nI kn), .ref (d 4), .int (nI ln), .int th, .ref (d 5), .int (nI tm), .ref (d 6), .int (nI kp), .int (nI ((((jj + 1) + 1) + 1) + 1)), .int 0])), ((d 5), .inl (G.2.1 0, 30, .inl l9))]) [3, 1] rfl
          have hDc := hD.sub (ws' := [((d 0), .inr (6, [.ref (d 1), .ref (d 2), .ref (d 3), .int (nI kn), .ref (d 4), .int (nI ln), .int th, .ref (d 5), .int (nI tm), .ref (d 6), .int (nI kp), .int (nI ((((jj + 1) + 1) + 1) + 1)), .int 0])), ((d 5), .inl (G.2.1 0, 30, .inl l9))]) [3, 1] (by decide) rfl
          refine z_callv (wr := [((d 1), .inl (G.2.1 0, 80, .inl s9)), ((d 6), .inl (G.2.1 0, 30, .inl f9)), ((d 4), .inl (G.2.1 0, 60, .inl t9))]) (va_runV (As := [.int 0, .int (nI (10 * d1 + d2)), .int (nI d3)]) (rest := []) ⟨hx, hb, hml, hown, hts⟩ (c_X6_layFrame l G H.size d kn ln tm kp ((((jj + 1) + 1) + 1) + 1) th 0 l9 0 (10 * d1 + d2) d3 (by decide) (by omega) b4) (cwV 3 hts gX6_part_X6_layFrame rfl rfl rfl (by decide +kernel) ⟨(Nat.le_of_ble_eq_true rfl), (Nat.le_of_ble_eq_true rfl)⟩) (zV (ci := 6) (q0 := 0) hK hPc hDc rfl rfl) rfl rfl hl.1 rfl (lv_room (Nat.le_of_ble_eq_true rfl)) dX6_part_82 ⟨(Nat.le_of_ble_eq_true rfl), (Nat.le_of_ble_eq_true rfl)⟩) hP hD hS hA [3, 1] [0, 2, 4] rfl rfl (by decide) (by decide) (fun u_8 H locs hw_8 hP hD hS => ?_)
          have hP : va_P G.1 vwCl [((d 1), .inl (G.2.1 0, 80, .inl s9)), ((d 6), .inl (G.2.1 0, 30, .inl f9)), ((d 4), .inl (G.2.1 0, 60, .inl t9)), ((d 0), .inr (6, [.ref (d 1), .ref (d 2), .ref (d 3), .int (nI kn), .ref (d 4), .int (nI ln), .int th, .ref (d 5), .int (nI 21), .ref (d 6), .int (nI kp), .int (nI ((((jj + 1) + 1) + 1) + 1)), .int 0])), ((d 5), .inl (G.2.1 0, 30, .inl u_8))] H := hP
          have hD : va_D A [((d 1), .inl (G.2.1 0, 80, .inl s9)), ((d 6), .inl (G.2.1 0, 30, .inl f9)), ((d 4), .inl (G.2.1 0, 60, .inl t9)), ((d 0), .inr (6, [.ref (d 1), .ref (d 2), .ref (d 3), .int (nI kn), .ref (d 4), .int (nI ln), .int th, .ref (d 5), .int (nI 21), .ref (d 6), .int (nI kp), .int (nI ((((jj + 1) + 1) + 1) + 1)), .int 0])), ((d 5), .inl (G.2.1 0, 30, .inl u_8))] := hD
          refine lv_aload_n hx hb dX6_part_85 rfl (lv_at hl 3 rfl) ?_
          refine lv_bipush (v := 10) hx hb dX6_part_86 (by decide) ?_
          have hPc := hP.sub (ws' := [((d 0), .inr (6, [.ref (d 1), .ref (d 2), .ref (d 3), .int (nI kn), .ref (d 4), .int (nI ln), .int th, .ref (d 5), .int (nI 21), .ref (d 6), .int (nI kp), .int (nI ((((jj + 1) + 1) + 1) + 1)), .int 0])), ((d 1), .inl (G.2.1 0, 80, .inl s9)), ((d 5), .inl (G.2.1 0, 30, .inl u_8)), ((d 6), .inl (G.2.1 0, 30, .inl f9))]) [3, 0, 4, 1] rfl
          have hDc := hD.sub (ws' := [((d 0), .inr (6, [.ref (d 1), .ref (d 2), .ref (d 3), .int (nI kn), .ref (d 4), .int (nI ln), .int th, .ref (d 5), .int (nI 21), .ref (d 6), .int (nI kp), .int (nI ((((jj + 1) + 1) + 1) + 1)), .int 0])), ((d 1), .inl (G.2.1 0, 80, .inl s9)), ((d 5), .inl (G.2.1 0, 30, .inl u_8)), ((d 6), .inl (G.2.1 0, 30, .inl f9))]) [3, 0, 4, 1] (by decide) rfl
          refine z_calli (wr := [((d 4), .inl (G.2.1 0, 60, .inl t9))]) (va_runV (As := [.int 10]) (rest := []) ⟨hx, hb, hml, hown, hts⟩ (c_X6_get l G H.size d kn ln 21 kp ((((jj + 1) + 1) + 1) + 1) th 0 (by decide) s9 u_8 f9 10 hin.1 (fun j hj _ => by rw [hw_8 j hj]; exact frS_bd _ j) (s9 3).toNatClampNeg hc7 hin.2.1) (cwV 1 hts gX6_part_X6_get rfl rfl rfl (by decide +kernel) ⟨(Nat.le_of_ble_eq_true rfl), (Nat.le_of_ble_eq_true rfl)⟩) (zV (ci := 6) (q0 := 0) hK hPc hDc rfl rfl) rfl rfl hl.1 rfl (lv_room (Nat.le_of_ble_eq_true rfl)) dX6_part_88 ⟨(Nat.le_of_ble_eq_true rfl), (Nat.le_of_ble_eq_true rfl)⟩) hP hD hS hA [3, 0, 4, 1] [2] rfl rfl (by decide) (by decide) (fun r_9 u_9 H locs hw_9 hP hD hS => ?_)
          have hP : va_P G.1 vwCl [((d 4), .inl (G.2.1 0, 60, .inl t9)), ((d 0), .inr (6, [.ref (d 1), .ref (d 2), .ref (d 3), .int (nI kn), .ref (d 4), .int (nI ln), .int th, .ref (d 5), .int (nI 21), .ref (d 6), .int (nI u_9.2.2.2.1), .int (nI ((((jj + 1) + 1) + 1) + 1)), .int 0])), ((d 1), .inl (G.2.1 0, 80, .inl u_9.1)), ((d 5), .inl (G.2.1 0, 30, .inl u_8)), ((d 6), .inl (G.2.1 0, 30, .inl u_9.2.2.2.2))] H := hP
          have hD : va_D A [((d 4), .inl (G.2.1 0, 60, .inl t9)), ((d 0), .inr (6, [.ref (d 1), .ref (d 2), .ref (d 3), .int (nI kn), .ref (d 4), .int (nI ln), .int th, .ref (d 5), .int (nI 21), .ref (d 6), .int (nI u_9.2.2.2.1), .int (nI ((((jj + 1) + 1) + 1) + 1)), .int 0])), ((d 1), .inl (G.2.1 0, 80, .inl u_9.1)), ((d 5), .inl (G.2.1 0, 30, .inl u_8)), ((d 6), .inl (G.2.1 0, 30, .inl u_9.2.2.2.2))] := hD
          refine lv_istore (lv' := [(5, .int r_9), (4, .int (nI d3)), (3, .int (nI d2)), (2, .int (nI d1)), (0, .ref (d 0)), (1, .int 1)]) hx hb dX6_part_91 hl (by decide) rfl (fun ls hl => ?_)
          refine lv_goto (tgt := 264) hx hb dX6_part_93 (by decide) ?_
          have hP9 := hP.sub (ws' := [((d 0), .inr (6, [.ref (d 1), .ref (d 2), .ref (d 3), .int (nI kn), .ref (d 4), .int (nI ln), .int th, .ref (d 5), .int (nI 21), .ref (d 6), .int (nI u_9.2.2.2.1), .int (nI ((((jj + 1) + 1) + 1) + 1)), .int 0])), ((d 1), .inl (G.2.1 0, 80, .inl u_9.1)), ((d 4), .inl (G.2.1 0, 60, .inl t9)), ((d 5), .inl (G.2.1 0, 30, .inl u_8)), ((d 6), .inl (G.2.1 0, 30, .inl u_9.2.2.2.2))]) [1, 2, 0, 3, 4] rfl
          have hD9 := hD.sub (ws' := [((d 0), .inr (6, [.ref (d 1), .ref (d 2), .ref (d 3), .int (nI kn), .ref (d 4), .int (nI ln), .int th, .ref (d 5), .int (nI 21), .ref (d 6), .int (nI u_9.2.2.2.1), .int (nI ((((jj + 1) + 1) + 1) + 1)), .int 0])), ((d 1), .inl (G.2.1 0, 80, .inl u_9.1)), ((d 4), .inl (G.2.1 0, 60, .inl t9)), ((d 5), .inl (G.2.1 0, 30, .inl u_8)), ((d 6), .inl (G.2.1 0, 30, .inl u_9.2.2.2.2))]) [1, 2, 0, 3, 4] (by decide) rfl
          exact z_vret hx hb hr hlocks (u_9.1, (21, u_8), (u_9.2.2.2.1, u_9.2.2.2.2)) hP9 hD9 hS (Nat.le_of_ble_eq_true rfl) (Nat.le_of_ble_eq_true rfl) dX6_part_264 ⟨((ptR_f hxt e1 e2 e3 b1 b2 b4).trans (by rw [← LO_same (n := 21) hw_8]; exact (congrArg Prod.snd hw_9.1).symm)).symm, trivial⟩
      · have hd1 : d1 = 1 := (z_eq (a := d1) (b := 1) rfl rfl (by omega) (by omega)).mp c_4
        refine lv_bipush (v := 53) hx hb dX6_part_41 (by decide) ?_
        refine lv_goto (tgt := 48) hx hb dX6_part_43 (by decide) ?_
        have hPc := hP.sub (ws' := [((d 0), .inr (6, [.ref (d 1), .ref (d 2), .ref (d 3), .int (nI kn), .ref (d 4), .int (nI ln), .int th, .ref (d 5), .int (nI tm), .ref (d 6), .int (nI kp), .int (nI ((jj + 1) + 1)), .int 0])), ((d 4), .inl (G.2.1 0, 60, .inl t9))]) [3, 4] rfl
        have hDc := hD.sub (ws' := [((d 0), .inr (6, [.ref (d 1), .ref (d 2), .ref (d 3), .int (nI kn), .ref (d 4), .int (nI ln), .int th, .ref (d 5), .int (nI tm), .ref (d 6), .int (nI kp), .int (nI ((jj + 1) + 1)), .int 0])), ((d 4), .inl (G.2.1 0, 60, .inl t9))]) [3, 4] (by decide) rfl
        refine z_calli (wr := [((d 1), .inl (G.2.1 0, 80, .inl s9)), ((d 5), .inl (G.2.1 0, 30, .inl l9)), ((d 6), .inl (G.2.1 0, 30, .inl f9))]) (va_runV (As := [.int 48, .int 53]) (rest := []) ⟨hx, hb, hml, hown, hts⟩ (c_X6_sign l G H.size d kn ln tm kp ((jj + 1) + 1) th 0 hln (by omega) t9 48 53) (cwV 2 hts gX6_part_X6_sign rfl rfl rfl (by decide +kernel) ⟨(Nat.le_of_ble_eq_true rfl), (Nat.le_of_ble_eq_true rfl)⟩) (zV (ci := 6) (q0 := 0) hK hPc hDc rfl rfl) rfl rfl hl.1 rfl (lv_room (Nat.le_of_ble_eq_true rfl)) dX6_part_48 ⟨(Nat.le_of_ble_eq_true rfl), (Nat.le_of_ble_eq_true rfl)⟩) hP hD hS hA [3, 4] [0, 1, 2] rfl rfl (by decide) (by decide) (fun r_10 u_10 H locs hw_10 hP hD hS => ?_)
        obtain ⟨hv_10, hu_10⟩ := hw_10
        have hq_10 : r_10 = (nI (48 + d2)) := hv_10.trans ((sgV_lt (by omega)).trans e2)
        have hg_10 : u_10 = (((jj + 1) + 1) + 1, 0) := hu_10.trans (sgF_ok (by omega) (dg_in (l := 48) (b := 53) rfl rfl e2 (by omega) (by omega) (by omega)))
        subst hq_10
        subst hg_10
        have hP : va_P G.1 vwCl [((d 1), .inl (G.2.1 0, 80, .inl s9)), ((d 5), .inl (G.2.1 0, 30, .inl l9)), ((d 6), .inl (G.2.1 0, 30, .inl f9)), ((d 0), .inr (6, [.ref (d 1), .ref (d 2), .ref (d 3), .int (nI kn), .ref (d 4), .int (nI ln), .int th, .ref (d 5), .int (nI tm), .ref (d 6), .int (nI kp), .int (nI (((jj + 1) + 1) + 1)), .int 0])), ((d 4), .inl (G.2.1 0, 60, .inl t9))] H := hP
        have hD : va_D A [((d 1), .inl (G.2.1 0, 80, .inl s9)), ((d 5), .inl (G.2.1 0, 30, .inl l9)), ((d 6), .inl (G.2.1 0, 30, .inl f9)), ((d 0), .inr (6, [.ref (d 1), .ref (d 2), .ref (d 3), .int (nI kn), .ref (d 4), .int (nI ln), .int th, .ref (d 5), .int (nI tm), .ref (d 6), .int (nI kp), .int (nI (((jj + 1) + 1) + 1)), .int 0])), ((d 4), .inl (G.2.1 0, 60, .inl t9))] := hD
        refine lv_bipush (v := 48) hx hb dX6_part_51 (by decide) ?_
        refine lv_isub hx hb dX6_part_53 ?_
        refine z_top (dgI rfl) ?_
        refine lv_istore_n (lv' := [(3, .int (nI d2)), (2, .int (nI d1)), (0, .ref (d 0)), (1, .int 1)]) hx hb dX6_part_54 rfl hl (by decide) rfl (fun ls hl => ?_)
        refine lv_aload_n hx hb dX6_part_55 rfl (lv_at hl 2 rfl) ?_
        refine lv_bipush (v := 48) hx hb dX6_part_56 (by decide) ?_
        refine lv_bipush (v := 49) hx hb dX6_part_58 (by decide) ?_
        have hPc := hP.sub (ws' := [((d 0), .inr (6, [.ref (d 1), .ref (d 2), .ref (d 3), .int (nI kn), .ref (d 4), .int (nI ln), .int th, .ref (d 5), .int (nI tm), .ref (d 6), .int (nI kp), .int (nI (((jj + 1) + 1) + 1)), .int 0])), ((d 4), .inl (G.2.1 0, 60, .inl t9))]) [3, 4] rfl
        have hDc := hD.sub (ws' := [((d 0), .inr (6, [.ref (d 1), .ref (d 2), .ref (d 3), .int (nI kn), .ref (d 4), .int (nI ln), .int th, .ref (d 5), .int (nI tm), .ref (d 6), .int (nI kp), .int (nI (((jj + 1) + 1) + 1)), .int 0])), ((d 4), .inl (G.2.1 0, 60, .inl t9))]) [3, 4] (by decide) rfl
        refine z_calli (wr := [((d 1), .inl (G.2.1 0, 80, .inl s9)), ((d 5), .inl (G.2.1 0, 30, .inl l9)), ((d 6), .inl (G.2.1 0, 30, .inl f9))]) (va_runV (As := [.int 48, .int 49]) (rest := []) ⟨hx, hb, hml, hown, hts⟩ (c_X6_sign l G H.size d kn ln tm kp (((jj + 1) + 1) + 1) th 0 hln (by omega) t9 48 49) (cwV 2 hts gX6_part_X6_sign rfl rfl rfl (by decide +kernel) ⟨(Nat.le_of_ble_eq_true rfl), (Nat.le_of_ble_eq_true rfl)⟩) (zV (ci := 6) (q0 := 0) hK hPc hDc rfl rfl) rfl rfl hl.1 rfl (lv_room (Nat.le_of_ble_eq_true rfl)) dX6_part_60 ⟨(Nat.le_of_ble_eq_true rfl), (Nat.le_of_ble_eq_true rfl)⟩) hP hD hS hA [3, 4] [0, 1, 2] rfl rfl (by decide) (by decide) (fun r_11 u_11 H locs hw_11 hP hD hS => ?_)
        obtain ⟨hv_11, hu_11⟩ := hw_11
        have hq_11 : r_11 = (nI (48 + d3)) := hv_11.trans ((sgV_lt (by omega)).trans e3)
        have hg_11 : u_11 = ((((jj + 1) + 1) + 1) + 1, 0) := hu_11.trans (sgF_ok (by omega) (dg_in (l := 48) (b := 49) rfl rfl e3 (by omega) (by omega) (by omega)))
        subst hq_11
        subst hg_11
        have hP : va_P G.1 vwCl [((d 1), .inl (G.2.1 0, 80, .inl s9)), ((d 5), .inl (G.2.1 0, 30, .inl l9)), ((d 6), .inl (G.2.1 0, 30, .inl f9)), ((d 0), .inr (6, [.ref (d 1), .ref (d 2), .ref (d 3), .int (nI kn), .ref (d 4), .int (nI ln), .int th, .ref (d 5), .int (nI tm), .ref (d 6), .int (nI kp), .int (nI ((((jj + 1) + 1) + 1) + 1)), .int 0])), ((d 4), .inl (G.2.1 0, 60, .inl t9))] H := hP
        have hD : va_D A [((d 1), .inl (G.2.1 0, 80, .inl s9)), ((d 5), .inl (G.2.1 0, 30, .inl l9)), ((d 6), .inl (G.2.1 0, 30, .inl f9)), ((d 0), .inr (6, [.ref (d 1), .ref (d 2), .ref (d 3), .int (nI kn), .ref (d 4), .int (nI ln), .int th, .ref (d 5), .int (nI tm), .ref (d 6), .int (nI kp), .int (nI ((((jj + 1) + 1) + 1) + 1)), .int 0])), ((d 4), .inl (G.2.1 0, 60, .inl t9))] := hD
        refine lv_bipush (v := 48) hx hb dX6_part_63 (by decide) ?_
        refine lv_isub hx hb dX6_part_65 ?_
        refine z_top (dgI rfl) ?_
        refine lv_istore (lv' := [(4, .int (nI d3)), (3, .int (nI d2)), (2, .int (nI d1)), (0, .ref (d 0)), (1, .int 1)]) hx hb dX6_part_66 hl (by decide) rfl (fun ls hl => ?_)
        refine lv_iload_n hx hb dX6_part_68 rfl (lv_at hl 4 rfl) ?_
        refine lv_if_eq (tgt := 93) hx hb dX6_part_69 (by decide) (fun c_12 => ?_) (fun c_12 => ?_)
        · exact absurd c_12 (by decide)
        · refine lv_aload_n hx hb dX6_part_72 rfl (lv_at hl 3 rfl) ?_
          refine lv_iconst (v := 0) hx hb dX6_part_73 (by decide) ?_
          refine lv_bipush (v := 10) hx hb dX6_part_74 (by decide) ?_
          refine lv_iload_n hx hb dX6_part_76 rfl (lv_at hl 2 rfl) ?_
          refine lv_imul hx hb dX6_part_77 ?_
          refine z_top (show 10 * nI d1 = nI (10 * d1) from pk_mul 10 d1) ?_
          refine lv_iload_n hx hb dX6_part_78 rfl (lv_at hl 1 rfl) ?_
          refine lv_iadd hx hb dX6_part_79 ?_
          refine z_top (nI_add _ _) ?_
          refine lv_iload hx hb dX6_part_80 (lv_at hl 0 rfl) ?_
          have hPc := hP.sub (ws' := [((d 0), .inr (6, [.ref (d 1), .ref (d 2), .ref (d 3), .int (nI kn), .ref (d 4), .int (nI ln), .int th, .ref (d 5), .int (nI tm), .ref (d 6), .int (nI kp), .int (nI ((((jj + 1) + 1) + 1) + 1)), .int 0])), ((d 5), .inl (G.2.1 0, 30, .inl l9))]) [3, 1] rfl
          have hDc := hD.sub (ws' := [((d 0), .inr (6, [.ref (d 1), .ref (d 2), .ref (d 3), .int (nI kn), .ref (d 4), .int (nI ln), .int th, .ref (d 5), .int (nI tm), .ref (d 6), .int (nI kp), .int (nI ((((jj + 1) + 1) + 1) + 1)), .int 0])), ((d 5), .inl (G.2.1 0, 30, .inl l9))]) [3, 1] (by decide) rfl
          refine z_callv (wr := [((d 1), .inl (G.2.1 0, 80, .inl s9)), ((d 6), .inl (G.2.1 0, 30, .inl f9)), ((d 4), .inl (G.2.1 0, 60, .inl t9))]) (va_runV (As := [.int 0, .int (nI (10 * d1 + d2)), .int (nI d3)]) (rest := []) ⟨hx, hb, hml, hown, hts⟩ (c_X6_layFrame l G H.size d kn ln tm kp ((((jj + 1) + 1) + 1) + 1) th 0 l9 0 (10 * d1 + d2) d3 (by decide) (by omega) b4) (cwV 3 hts gX6_part_X6_layFrame rfl rfl rfl (by decide +kernel) ⟨(Nat.le_of_ble_eq_true rfl), (Nat.le_of_ble_eq_true rfl)⟩) (zV (ci := 6) (q0 := 0) hK hPc hDc rfl rfl) rfl rfl hl.1 rfl (lv_room (Nat.le_of_ble_eq_true rfl)) dX6_part_82 ⟨(Nat.le_of_ble_eq_true rfl), (Nat.le_of_ble_eq_true rfl)⟩) hP hD hS hA [3, 1] [0, 2, 4] rfl rfl (by decide) (by decide) (fun u_13 H locs hw_13 hP hD hS => ?_)
          have hP : va_P G.1 vwCl [((d 1), .inl (G.2.1 0, 80, .inl s9)), ((d 6), .inl (G.2.1 0, 30, .inl f9)), ((d 4), .inl (G.2.1 0, 60, .inl t9)), ((d 0), .inr (6, [.ref (d 1), .ref (d 2), .ref (d 3), .int (nI kn), .ref (d 4), .int (nI ln), .int th, .ref (d 5), .int (nI 21), .ref (d 6), .int (nI kp), .int (nI ((((jj + 1) + 1) + 1) + 1)), .int 0])), ((d 5), .inl (G.2.1 0, 30, .inl u_13))] H := hP
          have hD : va_D A [((d 1), .inl (G.2.1 0, 80, .inl s9)), ((d 6), .inl (G.2.1 0, 30, .inl f9)), ((d 4), .inl (G.2.1 0, 60, .inl t9)), ((d 0), .inr (6, [.ref (d 1), .ref (d 2), .ref (d 3), .int (nI kn), .ref (d 4), .int (nI ln), .int th, .ref (d 5), .int (nI 21), .ref (d 6), .int (nI kp), .int (nI ((((jj + 1) + 1) + 1) + 1)), .int 0])), ((d 5), .inl (G.2.1 0, 30, .inl u_13))] := hD
          refine lv_aload_n hx hb dX6_part_85 rfl (lv_at hl 3 rfl) ?_
          refine lv_bipush (v := 10) hx hb dX6_part_86 (by decide) ?_
          have hPc := hP.sub (ws' := [((d 0), .inr (6, [.ref (d 1), .ref (d 2), .ref (d 3), .int (nI kn), .ref (d 4), .int (nI ln), .int th, .ref (d 5), .int (nI 21), .ref (d 6), .int (nI kp), .int (nI ((((jj + 1) + 1) + 1) + 1)), .int 0])), ((d 1), .inl (G.2.1 0, 80, .inl s9)), ((d 5), .inl (G.2.1 0, 30, .inl u_13)), ((d 6), .inl (G.2.1 0, 30, .inl f9))]) [3, 0, 4, 1] rfl
          have hDc := hD.sub (ws' := [((d 0), .inr (6, [.ref (d 1), .ref (d 2), .ref (d 3), .int (nI kn), .ref (d 4), .int (nI ln), .int th, .ref (d 5), .int (nI 21), .ref (d 6), .int (nI kp), .int (nI ((((jj + 1) + 1) + 1) + 1)), .int 0])), ((d 1), .inl (G.2.1 0, 80, .inl s9)), ((d 5), .inl (G.2.1 0, 30, .inl u_13)), ((d 6), .inl (G.2.1 0, 30, .inl f9))]) [3, 0, 4, 1] (by decide) rfl
          refine z_calli (wr := [((d 4), .inl (G.2.1 0, 60, .inl t9))]) (va_runV (As := [.int 10]) (rest := []) ⟨hx, hb, hml, hown, hts⟩ (c_X6_get l G H.size d kn ln 21 kp ((((jj + 1) + 1) + 1) + 1) th 0 (by decide) s9 u_13 f9 10 hin.1 (fun j hj _ => by rw [hw_13 j hj]; exact frS_bd _ j) (s9 3).toNatClampNeg hc7 hin.2.1) (cwV 1 hts gX6_part_X6_get rfl rfl rfl (by decide +kernel) ⟨(Nat.le_of_ble_eq_true rfl), (Nat.le_of_ble_eq_true rfl)⟩) (zV (ci := 6) (q0 := 0) hK hPc hDc rfl rfl) rfl rfl hl.1 rfl (lv_room (Nat.le_of_ble_eq_true rfl)) dX6_part_88 ⟨(Nat.le_of_ble_eq_true rfl), (Nat.le_of_ble_eq_true rfl)⟩) hP hD hS hA [3, 0, 4, 1] [2] rfl rfl (by decide) (by decide) (fun r_14 u_14 H locs hw_14 hP hD hS => ?_)
          have hP : va_P G.1 vwCl [((d 4), .inl (G.2.1 0, 60, .inl t9)), ((d 0), .inr (6, [.ref (d 1), .ref (d 2), .ref (d 3), .int (nI kn), .ref (d 4), .int (nI ln), .int th, .ref (d 5), .int (nI 21), .ref (d 6), .int (nI u_14.2.2.2.1), .int (nI ((((jj + 1) + 1) + 1) + 1)), .int 0])), ((d 1), .inl (G.2.1 0, 80, .inl u_14.1)), ((d 5), .inl (G.2.1 0, 30, .inl u_13)), ((d 6), .inl (G.2.1 0, 30, .inl u_14.2.2.2.2))] H := hP
          have hD : va_D A [((d 4), .inl (G.2.1 0, 60, .inl t9)), ((d 0), .inr (6, [.ref (d 1), .ref (d 2), .ref (d 3), .int (nI kn), .ref (d 4), .int (nI ln), .int th, .ref (d 5), .int (nI 21), .ref (d 6), .int (nI u_14.2.2.2.1), .int (nI ((((jj + 1) + 1) + 1) + 1)), .int 0])), ((d 1), .inl (G.2.1 0, 80, .inl u_14.1)), ((d 5), .inl (G.2.1 0, 30, .inl u_13)), ((d 6), .inl (G.2.1 0, 30, .inl u_14.2.2.2.2))] := hD
          refine lv_istore (lv' := [(5, .int r_14), (4, .int (nI d3)), (3, .int (nI d2)), (2, .int (nI d1)), (0, .ref (d 0)), (1, .int 1)]) hx hb dX6_part_91 hl (by decide) rfl (fun ls hl => ?_)
          refine lv_goto (tgt := 264) hx hb dX6_part_93 (by decide) ?_
          have hP9 := hP.sub (ws' := [((d 0), .inr (6, [.ref (d 1), .ref (d 2), .ref (d 3), .int (nI kn), .ref (d 4), .int (nI ln), .int th, .ref (d 5), .int (nI 21), .ref (d 6), .int (nI u_14.2.2.2.1), .int (nI ((((jj + 1) + 1) + 1) + 1)), .int 0])), ((d 1), .inl (G.2.1 0, 80, .inl u_14.1)), ((d 4), .inl (G.2.1 0, 60, .inl t9)), ((d 5), .inl (G.2.1 0, 30, .inl u_13)), ((d 6), .inl (G.2.1 0, 30, .inl u_14.2.2.2.2))]) [1, 2, 0, 3, 4] rfl
          have hD9 := hD.sub (ws' := [((d 0), .inr (6, [.ref (d 1), .ref (d 2), .ref (d 3), .int (nI kn), .ref (d 4), .int (nI ln), .int th, .ref (d 5), .int (nI 21), .ref (d 6), .int (nI u_14.2.2.2.1), .int (nI ((((jj + 1) + 1) + 1) + 1)), .int 0])), ((d 1), .inl (G.2.1 0, 80, .inl u_14.1)), ((d 4), .inl (G.2.1 0, 60, .inl t9)), ((d 5), .inl (G.2.1 0, 30, .inl u_13)), ((d 6), .inl (G.2.1 0, 30, .inl u_14.2.2.2.2))]) [1, 2, 0, 3, 4] (by decide) rfl
          exact z_vret hx hb hr hlocks (u_14.1, (21, u_13), (u_14.2.2.2.1, u_14.2.2.2.2)) hP9 hD9 hS (Nat.le_of_ble_eq_true rfl) (Nat.le_of_ble_eq_true rfl) dX6_part_264 ⟨((ptR_f hxt e1 e2 e3 b1 b2 b4).trans (by rw [← LO_same (n := 21) hw_13]; exact (congrArg Prod.snd hw_14.1).symm)).symm, trivial⟩
  · refine lv_aload_n hx hb dX6_part_0 rfl (lv_at hl 0 rfl) ?_
    refine lv_bipush (v := 102) hx hb dX6_part_1 (by decide) ?_
    refine lv_bipush (v := 102) hx hb dX6_part_3 (by decide) ?_
    have hPc := hP.sub (ws' := [((d 0), .inr (6, [.ref (d 1), .ref (d 2), .ref (d 3), .int (nI kn), .ref (d 4), .int (nI ln), .int th, .ref (d 5), .int (nI tm), .ref (d 6), .int (nI kp), .int (nI jj), .int 0])), ((d 4), .inl (G.2.1 0, 60, .inl t9))]) [0, 2] rfl
    have hDc := hD.sub (ws' := [((d 0), .inr (6, [.ref (d 1), .ref (d 2), .ref (d 3), .int (nI kn), .ref (d 4), .int (nI ln), .int th, .ref (d 5), .int (nI tm), .ref (d 6), .int (nI kp), .int (nI jj), .int 0])), ((d 4), .inl (G.2.1 0, 60, .inl t9))]) [0, 2] (by decide) rfl
    refine z_calli (wr := [((d 1), .inl (G.2.1 0, 80, .inl s9)), ((d 5), .inl (G.2.1 0, 30, .inl l9)), ((d 6), .inl (G.2.1 0, 30, .inl f9))]) (va_runV (As := [.int 102, .int 102]) (rest := []) ⟨hx, hb, hml, hown, hts⟩ (c_X6_isNext l G s.heap.size d kn ln tm kp jj th 0 hln (by omega) t9 102 102) (cwV 2 hts gX6_part_X6_isNext rfl rfl rfl (by decide +kernel) ⟨(Nat.le_of_ble_eq_true rfl), (Nat.le_of_ble_eq_true rfl)⟩) (zV (ci := 6) (q0 := 0) hK hPc hDc rfl rfl) rfl rfl hl.1 rfl (lv_room (Nat.le_of_ble_eq_true rfl)) dX6_part_5 ⟨(Nat.le_of_ble_eq_true rfl), (Nat.le_of_ble_eq_true rfl)⟩) hP hD hS hA [0, 2] [1, 3, 4] rfl rfl (by decide) (by decide) (fun r_15 u_15 H locs hw_15 hP hD hS => ?_)
    have hq_15 : r_15 = 0 := hw_15.trans (if_neg (nx_no hxt (by decide)))
    subst hq_15
    have hP : va_P G.1 vwCl [((d 1), .inl (G.2.1 0, 80, .inl s9)), ((d 5), .inl (G.2.1 0, 30, .inl l9)), ((d 6), .inl (G.2.1 0, 30, .inl f9)), ((d 0), .inr (6, [.ref (d 1), .ref (d 2), .ref (d 3), .int (nI kn), .ref (d 4), .int (nI ln), .int th, .ref (d 5), .int (nI tm), .ref (d 6), .int (nI kp), .int (nI jj), .int 0])), ((d 4), .inl (G.2.1 0, 60, .inl t9))] H := hP
    have hD : va_D A [((d 1), .inl (G.2.1 0, 80, .inl s9)), ((d 5), .inl (G.2.1 0, 30, .inl l9)), ((d 6), .inl (G.2.1 0, 30, .inl f9)), ((d 0), .inr (6, [.ref (d 1), .ref (d 2), .ref (d 3), .int (nI kn), .ref (d 4), .int (nI ln), .int th, .ref (d 5), .int (nI tm), .ref (d 6), .int (nI kp), .int (nI jj), .int 0])), ((d 4), .inl (G.2.1 0, 60, .inl t9))] := hD
    refine lv_if_eq (tgt := 96) hx hb dX6_part_8 (by decide) (fun c_16 => ?_) (fun c_16 => ?_)
    · refine lv_aload_n hx hb dX6_part_96 rfl (lv_at hl 0 rfl) ?_
      refine lv_bipush (v := 114) hx hb dX6_part_97 (by decide) ?_
      refine lv_bipush (v := 114) hx hb dX6_part_99 (by decide) ?_
      have hPc := hP.sub (ws' := [((d 0), .inr (6, [.ref (d 1), .ref (d 2), .ref (d 3), .int (nI kn), .ref (d 4), .int (nI ln), .int th, .ref (d 5), .int (nI tm), .ref (d 6), .int (nI kp), .int (nI jj), .int 0])), ((d 4), .inl (G.2.1 0, 60, .inl t9))]) [3, 4] rfl
      have hDc := hD.sub (ws' := [((d 0), .inr (6, [.ref (d 1), .ref (d 2), .ref (d 3), .int (nI kn), .ref (d 4), .int (nI ln), .int th, .ref (d 5), .int (nI tm), .ref (d 6), .int (nI kp), .int (nI jj), .int 0])), ((d 4), .inl (G.2.1 0, 60, .inl t9))]) [3, 4] (by decide) rfl
      refine z_calli (wr := [((d 1), .inl (G.2.1 0, 80, .inl s9)), ((d 5), .inl (G.2.1 0, 30, .inl l9)), ((d 6), .inl (G.2.1 0, 30, .inl f9))]) (va_runV (As := [.int 114, .int 114]) (rest := []) ⟨hx, hb, hml, hown, hts⟩ (c_X6_isNext l G H.size d kn ln tm kp jj th 0 hln (by omega) t9 114 114) (cwV 2 hts gX6_part_X6_isNext rfl rfl rfl (by decide +kernel) ⟨(Nat.le_of_ble_eq_true rfl), (Nat.le_of_ble_eq_true rfl)⟩) (zV (ci := 6) (q0 := 0) hK hPc hDc rfl rfl) rfl rfl hl.1 rfl (lv_room (Nat.le_of_ble_eq_true rfl)) dX6_part_101 ⟨(Nat.le_of_ble_eq_true rfl), (Nat.le_of_ble_eq_true rfl)⟩) hP hD hS hA [3, 4] [0, 1, 2] rfl rfl (by decide) (by decide) (fun r_17 u_17 H locs hw_17 hP hD hS => ?_)
      have hq_17 : r_17 = 1 := hw_17.trans (if_pos (nx_yes hjn hxt))
      subst hq_17
      have hP : va_P G.1 vwCl [((d 1), .inl (G.2.1 0, 80, .inl s9)), ((d 5), .inl (G.2.1 0, 30, .inl l9)), ((d 6), .inl (G.2.1 0, 30, .inl f9)), ((d 0), .inr (6, [.ref (d 1), .ref (d 2), .ref (d 3), .int (nI kn), .ref (d 4), .int (nI ln), .int th, .ref (d 5), .int (nI tm), .ref (d 6), .int (nI kp), .int (nI jj), .int 0])), ((d 4), .inl (G.2.1 0, 60, .inl t9))] H := hP
      have hD : va_D A [((d 1), .inl (G.2.1 0, 80, .inl s9)), ((d 5), .inl (G.2.1 0, 30, .inl l9)), ((d 6), .inl (G.2.1 0, 30, .inl f9)), ((d 0), .inr (6, [.ref (d 1), .ref (d 2), .ref (d 3), .int (nI kn), .ref (d 4), .int (nI ln), .int th, .ref (d 5), .int (nI tm), .ref (d 6), .int (nI kp), .int (nI jj), .int 0])), ((d 4), .inl (G.2.1 0, 60, .inl t9))] := hD
      refine lv_if_eq (tgt := 139) hx hb dX6_part_104 (by decide) (fun c_18 => ?_) (fun c_18 => ?_)
      · exact absurd c_18 (by decide)
      · refine lv_aload_n hx hb dX6_part_107 rfl (lv_at hl 0 rfl) ?_
        refine lv_dup hx hb dX6_part_108 rfl ?_
        refine va_get (D := G.1) (ci := 6) (v := .int (nI jj)) (C := RX6) (T := TX6) (N := 13) hx hb hts zi_X6_part_X6 hown hK.1 hP 3 rfl rfl 11 (by decide) (hts _ zw_X6_part_f119) (fun _ h9 => h9) rfl dX6_part_109 ?_
        refine lv_iconst (v := 1) hx hb dX6_part_112 (by decide) ?_
        refine lv_iadd hx hb dX6_part_113 ?_
        refine z_top (nI_1 _) ?_
        refine va_put (D := G.1) (ci := 6) (v := .int (nI (jj + 1))) (ty := .int) (C := RX6) (T := TX6) (N := 13) hx hb hts zi_X6_part_X6 tyX6 tyX6_ok nmX6 hown hK.1 hP hD hS 3 rfl rfl 11 (by decide) (hts _ zw_X6_part_f119) (fun _ h9 => h9) rfl (by decide +kernel) rfl rfl (Nat.le_of_ble_eq_true rfl) dX6_part_114 (fun H locs hP hD hS => ?_)
        have hP : va_P G.1 vwCl [((d 1), .inl (G.2.1 0, 80, .inl s9)), ((d 5), .inl (G.2.1 0, 30, .inl l9)), ((d 6), .inl (G.2.1 0, 30, .inl f9)), ((d 0), .inr (6, [.ref (d 1), .ref (d 2), .ref (d 3), .int (nI kn), .ref (d 4), .int (nI ln), .int th, .ref (d 5), .int (nI tm), .ref (d 6), .int (nI kp), .int (nI (jj + 1)), .int 0])), ((d 4), .inl (G.2.1 0, 60, .inl t9))] H := hP
        have hD : va_D A [((d 1), .inl (G.2.1 0, 80, .inl s9)), ((d 5), .inl (G.2.1 0, 30, .inl l9)), ((d 6), .inl (G.2.1 0, 30, .inl f9)), ((d 0), .inr (6, [.ref (d 1), .ref (d 2), .ref (d 3), .int (nI kn), .ref (d 4), .int (nI ln), .int th, .ref (d 5), .int (nI tm), .ref (d 6), .int (nI kp), .int (nI (jj + 1)), .int 0])), ((d 4), .inl (G.2.1 0, 60, .inl t9))] := hD
        refine lv_aload_n hx hb dX6_part_117 rfl (lv_at hl 0 rfl) ?_
        have hPc := hP.sub (ws' := [((d 0), .inr (6, [.ref (d 1), .ref (d 2), .ref (d 3), .int (nI kn), .ref (d 4), .int (nI ln), .int th, .ref (d 5), .int (nI tm), .ref (d 6), .int (nI kp), .int (nI (jj + 1)), .int 0])), ((d 5), .inl (G.2.1 0, 30, .inl l9))]) [3, 1] rfl
        have hDc := hD.sub (ws' := [((d 0), .inr (6, [.ref (d 1), .ref (d 2), .ref (d 3), .int (nI kn), .ref (d 4), .int (nI ln), .int th, .ref (d 5), .int (nI tm), .ref (d 6), .int (nI kp), .int (nI (jj + 1)), .int 0])), ((d 5), .inl (G.2.1 0, 30, .inl l9))]) [3, 1] (by decide) rfl
        refine z_callv (wr := [((d 1), .inl (G.2.1 0, 80, .inl s9)), ((d 6), .inl (G.2.1 0, 30, .inl f9)), ((d 4), .inl (G.2.1 0, 60, .inl t9))]) (va_runV (As := []) (rest := []) ⟨hx, hb, hml, hown, hts⟩ (c_X6_layRepeat l G H.size d kn ln tm kp (jj + 1) th 0 l9) (cwV 0 hts gX6_part_X6_layRepeat rfl rfl rfl (by decide +kernel) ⟨(Nat.le_of_ble_eq_true rfl), (Nat.le_of_ble_eq_true rfl)⟩) (zV (ci := 6) (q0 := 0) hK hPc hDc rfl rfl) rfl rfl hl.1 rfl (lv_room (Nat.le_of_ble_eq_true rfl)) dX6_part_118 ⟨(Nat.le_of_ble_eq_true rfl), (Nat.le_of_ble_eq_true rfl)⟩) hP hD hS hA [3, 1] [0, 2, 4] rfl rfl (by decide) (by decide) (fun u_19 H locs hw_19 hP hD hS => ?_)
        have hP : va_P G.1 vwCl [((d 1), .inl (G.2.1 0, 80, .inl s9)), ((d 6), .inl (G.2.1 0, 30, .inl f9)), ((d 4), .inl (G.2.1 0, 60, .inl t9)), ((d 0), .inr (6, [.ref (d 1), .ref (d 2), .ref (d 3), .int (nI kn), .ref (d 4), .int (nI ln), .int th, .ref (d 5), .int (nI 3), .ref (d 6), .int (nI kp), .int (nI (jj + 1)), .int 0])), ((d 5), .inl (G.2.1 0, 30, .inl u_19))] H := hP
        have hD : va_D A [((d 1), .inl (G.2.1 0, 80, .inl s9)), ((d 6), .inl (G.2.1 0, 30, .inl f9)), ((d 4), .inl (G.2.1 0, 60, .inl t9)), ((d 0), .inr (6, [.ref (d 1), .ref (d 2), .ref (d 3), .int (nI kn), .ref (d 4), .int (nI ln), .int th, .ref (d 5), .int (nI 3), .ref (d 6), .int (nI kp), .int (nI (jj + 1)), .int 0])), ((d 5), .inl (G.2.1 0, 30, .inl u_19))] := hD
        refine lv_iload_n hx hb dX6_part_121 rfl (lv_at hl 1 rfl) ?_
        refine lv_if_eq (tgt := 134) hx hb dX6_part_122 (by decide) (fun c_20 => ?_) (fun c_20 => ?_)
        · exact absurd c_20 (by decide)
        · refine lv_aload_n hx hb dX6_part_125 rfl (lv_at hl 0 rfl) ?_
          refine lv_bipush (v := 10) hx hb dX6_part_126 (by decide) ?_
          have hPc := hP.sub (ws' := [((d 0), .inr (6, [.ref (d 1), .ref (d 2), .ref (d 3), .int (nI kn), .ref (d 4), .int (nI ln), .int th, .ref (d 5), .int (nI 3), .ref (d 6), .int (nI kp), .int (nI (jj + 1)), .int 0])), ((d 1), .inl (G.2.1 0, 80, .inl s9)), ((d 5), .inl (G.2.1 0, 30, .inl u_19)), ((d 6), .inl (G.2.1 0, 30, .inl f9))]) [3, 0, 4, 1] rfl
          have hDc := hD.sub (ws' := [((d 0), .inr (6, [.ref (d 1), .ref (d 2), .ref (d 3), .int (nI kn), .ref (d 4), .int (nI ln), .int th, .ref (d 5), .int (nI 3), .ref (d 6), .int (nI kp), .int (nI (jj + 1)), .int 0])), ((d 1), .inl (G.2.1 0, 80, .inl s9)), ((d 5), .inl (G.2.1 0, 30, .inl u_19)), ((d 6), .inl (G.2.1 0, 30, .inl f9))]) [3, 0, 4, 1] (by decide) rfl
          refine z_calli (wr := [((d 4), .inl (G.2.1 0, 60, .inl t9))]) (va_runV (As := [.int 10]) (rest := []) ⟨hx, hb, hml, hown, hts⟩ (c_X6_get l G H.size d kn ln 3 kp (jj + 1) th 0 (by decide) s9 u_19 f9 10 hin.1 (fun j hj _ => by rw [hw_19 j hj]; exact rpS_bd j) (s9 3).toNatClampNeg hc7 hin.2.1) (cwV 1 hts gX6_part_X6_get rfl rfl rfl (by decide +kernel) ⟨(Nat.le_of_ble_eq_true rfl), (Nat.le_of_ble_eq_true rfl)⟩) (zV (ci := 6) (q0 := 0) hK hPc hDc rfl rfl) rfl rfl hl.1 rfl (lv_room (Nat.le_of_ble_eq_true rfl)) dX6_part_128 ⟨(Nat.le_of_ble_eq_true rfl), (Nat.le_of_ble_eq_true rfl)⟩) hP hD hS hA [3, 0, 4, 1] [2] rfl rfl (by decide) (by decide) (fun r_21 u_21 H locs hw_21 hP hD hS => ?_)
          have hP : va_P G.1 vwCl [((d 4), .inl (G.2.1 0, 60, .inl t9)), ((d 0), .inr (6, [.ref (d 1), .ref (d 2), .ref (d 3), .int (nI kn), .ref (d 4), .int (nI ln), .int th, .ref (d 5), .int (nI 3), .ref (d 6), .int (nI u_21.2.2.2.1), .int (nI (jj + 1)), .int 0])), ((d 1), .inl (G.2.1 0, 80, .inl u_21.1)), ((d 5), .inl (G.2.1 0, 30, .inl u_19)), ((d 6), .inl (G.2.1 0, 30, .inl u_21.2.2.2.2))] H := hP
          have hD : va_D A [((d 4), .inl (G.2.1 0, 60, .inl t9)), ((d 0), .inr (6, [.ref (d 1), .ref (d 2), .ref (d 3), .int (nI kn), .ref (d 4), .int (nI ln), .int th, .ref (d 5), .int (nI 3), .ref (d 6), .int (nI u_21.2.2.2.1), .int (nI (jj + 1)), .int 0])), ((d 1), .inl (G.2.1 0, 80, .inl u_21.1)), ((d 5), .inl (G.2.1 0, 30, .inl u_19)), ((d 6), .inl (G.2.1 0, 30, .inl u_21.2.2.2.2))] := hD
          refine lv_goto (tgt := 135) hx hb dX6_part_131 (by decide) ?_
          refine lv_istore_n (lv' := [(2, .int r_21), (0, .ref (d 0)), (1, .int 1)]) hx hb dX6_part_135 rfl hl (by decide) rfl (fun ls hl => ?_)
          refine lv_goto (tgt := 264) hx hb dX6_part_136 (by decide) ?_
          have hP9 := hP.sub (ws' := [((d 0), .inr (6, [.ref (d 1), .ref (d 2), .ref (d 3), .int (nI kn), .ref (d 4), .int (nI ln), .int th, .ref (d 5), .int (nI 3), .ref (d 6), .int (nI u_21.2.2.2.1), .int (nI (jj + 1)), .int 0])), ((d 1), .inl (G.2.1 0, 80, .inl u_21.1)), ((d 4), .inl (G.2.1 0, 60, .inl t9)), ((d 5), .inl (G.2.1 0, 30, .inl u_19)), ((d 6), .inl (G.2.1 0, 30, .inl u_21.2.2.2.2))]) [1, 2, 0, 3, 4] rfl
          have hD9 := hD.sub (ws' := [((d 0), .inr (6, [.ref (d 1), .ref (d 2), .ref (d 3), .int (nI kn), .ref (d 4), .int (nI ln), .int th, .ref (d 5), .int (nI 3), .ref (d 6), .int (nI u_21.2.2.2.1), .int (nI (jj + 1)), .int 0])), ((d 1), .inl (G.2.1 0, 80, .inl u_21.1)), ((d 4), .inl (G.2.1 0, 60, .inl t9)), ((d 5), .inl (G.2.1 0, 30, .inl u_19)), ((d 6), .inl (G.2.1 0, 30, .inl u_21.2.2.2.2))]) [1, 2, 0, 3, 4] (by decide) rfl
          exact z_vret hx hb hr hlocks (u_21.1, (3, u_19), (u_21.2.2.2.1, u_21.2.2.2.2)) hP9 hD9 hS (Nat.le_of_ble_eq_true rfl) (Nat.le_of_ble_eq_true rfl) dX6_part_264 ⟨((ptR_r hxt).trans (by rw [← LO_same (n := 3) hw_19]; exact (congrArg Prod.snd hw_21.1).symm)).symm, trivial⟩
    · exact absurd rfl c_16
  · refine lv_aload_n hx hb dX6_part_0 rfl (lv_at hl 0 rfl) ?_
    refine lv_bipush (v := 102) hx hb dX6_part_1 (by decide) ?_
    refine lv_bipush (v := 102) hx hb dX6_part_3 (by decide) ?_
    have hPc := hP.sub (ws' := [((d 0), .inr (6, [.ref (d 1), .ref (d 2), .ref (d 3), .int (nI kn), .ref (d 4), .int (nI ln), .int th, .ref (d 5), .int (nI tm), .ref (d 6), .int (nI kp), .int (nI jj), .int 0])), ((d 4), .inl (G.2.1 0, 60, .inl t9))]) [0, 2] rfl
    have hDc := hD.sub (ws' := [((d 0), .inr (6, [.ref (d 1), .ref (d 2), .ref (d 3), .int (nI kn), .ref (d 4), .int (nI ln), .int th, .ref (d 5), .int (nI tm), .ref (d 6), .int (nI kp), .int (nI jj), .int 0])), ((d 4), .inl (G.2.1 0, 60, .inl t9))]) [0, 2] (by decide) rfl
    refine z_calli (wr := [((d 1), .inl (G.2.1 0, 80, .inl s9)), ((d 5), .inl (G.2.1 0, 30, .inl l9)), ((d 6), .inl (G.2.1 0, 30, .inl f9))]) (va_runV (As := [.int 102, .int 102]) (rest := []) ⟨hx, hb, hml, hown, hts⟩ (c_X6_isNext l G s.heap.size d kn ln tm kp jj th 0 hln (by omega) t9 102 102) (cwV 2 hts gX6_part_X6_isNext rfl rfl rfl (by decide +kernel) ⟨(Nat.le_of_ble_eq_true rfl), (Nat.le_of_ble_eq_true rfl)⟩) (zV (ci := 6) (q0 := 0) hK hPc hDc rfl rfl) rfl rfl hl.1 rfl (lv_room (Nat.le_of_ble_eq_true rfl)) dX6_part_5 ⟨(Nat.le_of_ble_eq_true rfl), (Nat.le_of_ble_eq_true rfl)⟩) hP hD hS hA [0, 2] [1, 3, 4] rfl rfl (by decide) (by decide) (fun r_22 u_22 H locs hw_22 hP hD hS => ?_)
    have hq_22 : r_22 = 0 := hw_22.trans (if_neg (nx_no hxt (by decide)))
    subst hq_22
    have hP : va_P G.1 vwCl [((d 1), .inl (G.2.1 0, 80, .inl s9)), ((d 5), .inl (G.2.1 0, 30, .inl l9)), ((d 6), .inl (G.2.1 0, 30, .inl f9)), ((d 0), .inr (6, [.ref (d 1), .ref (d 2), .ref (d 3), .int (nI kn), .ref (d 4), .int (nI ln), .int th, .ref (d 5), .int (nI tm), .ref (d 6), .int (nI kp), .int (nI jj), .int 0])), ((d 4), .inl (G.2.1 0, 60, .inl t9))] H := hP
    have hD : va_D A [((d 1), .inl (G.2.1 0, 80, .inl s9)), ((d 5), .inl (G.2.1 0, 30, .inl l9)), ((d 6), .inl (G.2.1 0, 30, .inl f9)), ((d 0), .inr (6, [.ref (d 1), .ref (d 2), .ref (d 3), .int (nI kn), .ref (d 4), .int (nI ln), .int th, .ref (d 5), .int (nI tm), .ref (d 6), .int (nI kp), .int (nI jj), .int 0])), ((d 4), .inl (G.2.1 0, 60, .inl t9))] := hD
    refine lv_if_eq (tgt := 96) hx hb dX6_part_8 (by decide) (fun c_23 => ?_) (fun c_23 => ?_)
    · refine lv_aload_n hx hb dX6_part_96 rfl (lv_at hl 0 rfl) ?_
      refine lv_bipush (v := 114) hx hb dX6_part_97 (by decide) ?_
      refine lv_bipush (v := 114) hx hb dX6_part_99 (by decide) ?_
      have hPc := hP.sub (ws' := [((d 0), .inr (6, [.ref (d 1), .ref (d 2), .ref (d 3), .int (nI kn), .ref (d 4), .int (nI ln), .int th, .ref (d 5), .int (nI tm), .ref (d 6), .int (nI kp), .int (nI jj), .int 0])), ((d 4), .inl (G.2.1 0, 60, .inl t9))]) [3, 4] rfl
      have hDc := hD.sub (ws' := [((d 0), .inr (6, [.ref (d 1), .ref (d 2), .ref (d 3), .int (nI kn), .ref (d 4), .int (nI ln), .int th, .ref (d 5), .int (nI tm), .ref (d 6), .int (nI kp), .int (nI jj), .int 0])), ((d 4), .inl (G.2.1 0, 60, .inl t9))]) [3, 4] (by decide) rfl
      refine z_calli (wr := [((d 1), .inl (G.2.1 0, 80, .inl s9)), ((d 5), .inl (G.2.1 0, 30, .inl l9)), ((d 6), .inl (G.2.1 0, 30, .inl f9))]) (va_runV (As := [.int 114, .int 114]) (rest := []) ⟨hx, hb, hml, hown, hts⟩ (c_X6_isNext l G H.size d kn ln tm kp jj th 0 hln (by omega) t9 114 114) (cwV 2 hts gX6_part_X6_isNext rfl rfl rfl (by decide +kernel) ⟨(Nat.le_of_ble_eq_true rfl), (Nat.le_of_ble_eq_true rfl)⟩) (zV (ci := 6) (q0 := 0) hK hPc hDc rfl rfl) rfl rfl hl.1 rfl (lv_room (Nat.le_of_ble_eq_true rfl)) dX6_part_101 ⟨(Nat.le_of_ble_eq_true rfl), (Nat.le_of_ble_eq_true rfl)⟩) hP hD hS hA [3, 4] [0, 1, 2] rfl rfl (by decide) (by decide) (fun r_24 u_24 H locs hw_24 hP hD hS => ?_)
      have hq_24 : r_24 = 0 := hw_24.trans (if_neg (nx_no hxt (by decide)))
      subst hq_24
      have hP : va_P G.1 vwCl [((d 1), .inl (G.2.1 0, 80, .inl s9)), ((d 5), .inl (G.2.1 0, 30, .inl l9)), ((d 6), .inl (G.2.1 0, 30, .inl f9)), ((d 0), .inr (6, [.ref (d 1), .ref (d 2), .ref (d 3), .int (nI kn), .ref (d 4), .int (nI ln), .int th, .ref (d 5), .int (nI tm), .ref (d 6), .int (nI kp), .int (nI jj), .int 0])), ((d 4), .inl (G.2.1 0, 60, .inl t9))] H := hP
      have hD : va_D A [((d 1), .inl (G.2.1 0, 80, .inl s9)), ((d 5), .inl (G.2.1 0, 30, .inl l9)), ((d 6), .inl (G.2.1 0, 30, .inl f9)), ((d 0), .inr (6, [.ref (d 1), .ref (d 2), .ref (d 3), .int (nI kn), .ref (d 4), .int (nI ln), .int th, .ref (d 5), .int (nI tm), .ref (d 6), .int (nI kp), .int (nI jj), .int 0])), ((d 4), .inl (G.2.1 0, 60, .inl t9))] := hD
      refine lv_if_eq (tgt := 139) hx hb dX6_part_104 (by decide) (fun c_25 => ?_) (fun c_25 => ?_)
      · refine lv_aload_n hx hb dX6_part_139 rfl (lv_at hl 0 rfl) ?_
        refine lv_bipush (v := 116) hx hb dX6_part_140 (by decide) ?_
        refine lv_bipush (v := 116) hx hb dX6_part_142 (by decide) ?_
        have hPc := hP.sub (ws' := [((d 0), .inr (6, [.ref (d 1), .ref (d 2), .ref (d 3), .int (nI kn), .ref (d 4), .int (nI ln), .int th, .ref (d 5), .int (nI tm), .ref (d 6), .int (nI kp), .int (nI jj), .int 0])), ((d 4), .inl (G.2.1 0, 60, .inl t9))]) [3, 4] rfl
        have hDc := hD.sub (ws' := [((d 0), .inr (6, [.ref (d 1), .ref (d 2), .ref (d 3), .int (nI kn), .ref (d 4), .int (nI ln), .int th, .ref (d 5), .int (nI tm), .ref (d 6), .int (nI kp), .int (nI jj), .int 0])), ((d 4), .inl (G.2.1 0, 60, .inl t9))]) [3, 4] (by decide) rfl
        refine z_calli (wr := [((d 1), .inl (G.2.1 0, 80, .inl s9)), ((d 5), .inl (G.2.1 0, 30, .inl l9)), ((d 6), .inl (G.2.1 0, 30, .inl f9))]) (va_runV (As := [.int 116, .int 116]) (rest := []) ⟨hx, hb, hml, hown, hts⟩ (c_X6_isNext l G H.size d kn ln tm kp jj th 0 hln (by omega) t9 116 116) (cwV 2 hts gX6_part_X6_isNext rfl rfl rfl (by decide +kernel) ⟨(Nat.le_of_ble_eq_true rfl), (Nat.le_of_ble_eq_true rfl)⟩) (zV (ci := 6) (q0 := 0) hK hPc hDc rfl rfl) rfl rfl hl.1 rfl (lv_room (Nat.le_of_ble_eq_true rfl)) dX6_part_144 ⟨(Nat.le_of_ble_eq_true rfl), (Nat.le_of_ble_eq_true rfl)⟩) hP hD hS hA [3, 4] [0, 1, 2] rfl rfl (by decide) (by decide) (fun r_26 u_26 H locs hw_26 hP hD hS => ?_)
        have hq_26 : r_26 = 1 := hw_26.trans (if_pos (nx_yes hjn hxt))
        subst hq_26
        have hP : va_P G.1 vwCl [((d 1), .inl (G.2.1 0, 80, .inl s9)), ((d 5), .inl (G.2.1 0, 30, .inl l9)), ((d 6), .inl (G.2.1 0, 30, .inl f9)), ((d 0), .inr (6, [.ref (d 1), .ref (d 2), .ref (d 3), .int (nI kn), .ref (d 4), .int (nI ln), .int th, .ref (d 5), .int (nI tm), .ref (d 6), .int (nI kp), .int (nI jj), .int 0])), ((d 4), .inl (G.2.1 0, 60, .inl t9))] H := hP
        have hD : va_D A [((d 1), .inl (G.2.1 0, 80, .inl s9)), ((d 5), .inl (G.2.1 0, 30, .inl l9)), ((d 6), .inl (G.2.1 0, 30, .inl f9)), ((d 0), .inr (6, [.ref (d 1), .ref (d 2), .ref (d 3), .int (nI kn), .ref (d 4), .int (nI ln), .int th, .ref (d 5), .int (nI tm), .ref (d 6), .int (nI kp), .int (nI jj), .int 0])), ((d 4), .inl (G.2.1 0, 60, .inl t9))] := hD
        refine lv_if_eq (tgt := 223) hx hb dX6_part_147 (by decide) (fun c_27 => ?_) (fun c_27 => ?_)
        · exact absurd c_27 (by decide)
        · refine lv_aload_n hx hb dX6_part_150 rfl (lv_at hl 0 rfl) ?_
          refine lv_dup hx hb dX6_part_151 rfl ?_
          refine va_get (D := G.1) (ci := 6) (v := .int (nI jj)) (C := RX6) (T := TX6) (N := 13) hx hb hts zi_X6_part_X6 hown hK.1 hP 3 rfl rfl 11 (by decide) (hts _ zw_X6_part_f119) (fun _ h9 => h9) rfl dX6_part_152 ?_
          refine lv_iconst (v := 1) hx hb dX6_part_155 (by decide) ?_
          refine lv_iadd hx hb dX6_part_156 ?_
          refine z_top (nI_1 _) ?_
          refine va_put (D := G.1) (ci := 6) (v := .int (nI (jj + 1))) (ty := .int) (C := RX6) (T := TX6) (N := 13) hx hb hts zi_X6_part_X6 tyX6 tyX6_ok nmX6 hown hK.1 hP hD hS 3 rfl rfl 11 (by decide) (hts _ zw_X6_part_f119) (fun _ h9 => h9) rfl (by decide +kernel) rfl rfl (Nat.le_of_ble_eq_true rfl) dX6_part_157 (fun H locs hP hD hS => ?_)
          have hP : va_P G.1 vwCl [((d 1), .inl (G.2.1 0, 80, .inl s9)), ((d 5), .inl (G.2.1 0, 30, .inl l9)), ((d 6), .inl (G.2.1 0, 30, .inl f9)), ((d 0), .inr (6, [.ref (d 1), .ref (d 2), .ref (d 3), .int (nI kn), .ref (d 4), .int (nI ln), .int th, .ref (d 5), .int (nI tm), .ref (d 6), .int (nI kp), .int (nI (jj + 1)), .int 0])), ((d 4), .inl (G.2.1 0, 60, .inl t9))] H := hP
          have hD : va_D A [((d 1), .inl (G.2.1 0, 80, .inl s9)), ((d 5), .inl (G.2.1 0, 30, .inl l9)), ((d 6), .inl (G.2.1 0, 30, .inl f9)), ((d 0), .inr (6, [.ref (d 1), .ref (d 2), .ref (d 3), .int (nI kn), .ref (d 4), .int (nI ln), .int th, .ref (d 5), .int (nI tm), .ref (d 6), .int (nI kp), .int (nI (jj + 1)), .int 0])), ((d 4), .inl (G.2.1 0, 60, .inl t9))] := hD
          refine lv_aload_n hx hb dX6_part_160 rfl (lv_at hl 0 rfl) ?_
          refine lv_bipush (v := 49) hx hb dX6_part_161 (by decide) ?_
          refine lv_bipush (v := 57) hx hb dX6_part_163 (by decide) ?_
          have hPc := hP.sub (ws' := [((d 0), .inr (6, [.ref (d 1), .ref (d 2), .ref (d 3), .int (nI kn), .ref (d 4), .int (nI ln), .int th, .ref (d 5), .int (nI tm), .ref (d 6), .int (nI kp), .int (nI (jj + 1)), .int 0])), ((d 4), .inl (G.2.1 0, 60, .inl t9))]) [3, 4] rfl
          have hDc := hD.sub (ws' := [((d 0), .inr (6, [.ref (d 1), .ref (d 2), .ref (d 3), .int (nI kn), .ref (d 4), .int (nI ln), .int th, .ref (d 5), .int (nI tm), .ref (d 6), .int (nI kp), .int (nI (jj + 1)), .int 0])), ((d 4), .inl (G.2.1 0, 60, .inl t9))]) [3, 4] (by decide) rfl
          refine z_calli (wr := [((d 1), .inl (G.2.1 0, 80, .inl s9)), ((d 5), .inl (G.2.1 0, 30, .inl l9)), ((d 6), .inl (G.2.1 0, 30, .inl f9))]) (va_runV (As := [.int 49, .int 57]) (rest := []) ⟨hx, hb, hml, hown, hts⟩ (c_X6_sign l G H.size d kn ln tm kp (jj + 1) th 0 hln (by omega) t9 49 57) (cwV 2 hts gX6_part_X6_sign rfl rfl rfl (by decide +kernel) ⟨(Nat.le_of_ble_eq_true rfl), (Nat.le_of_ble_eq_true rfl)⟩) (zV (ci := 6) (q0 := 0) hK hPc hDc rfl rfl) rfl rfl hl.1 rfl (lv_room (Nat.le_of_ble_eq_true rfl)) dX6_part_165 ⟨(Nat.le_of_ble_eq_true rfl), (Nat.le_of_ble_eq_true rfl)⟩) hP hD hS hA [3, 4] [0, 1, 2] rfl rfl (by decide) (by decide) (fun r_28 u_28 H locs hw_28 hP hD hS => ?_)
          obtain ⟨hv_28, hu_28⟩ := hw_28
          have hq_28 : r_28 = (nI (48 + d1)) := hv_28.trans ((sgV_lt (by omega)).trans e1)
          have hg_28 : u_28 = ((jj + 1) + 1, 0) := hu_28.trans (sgF_ok (by omega) (dg_in (l := 49) (b := 57) rfl rfl e1 (by omega) (by omega) (by omega)))
          subst hq_28
          subst hg_28
          have hP : va_P G.1 vwCl [((d 1), .inl (G.2.1 0, 80, .inl s9)), ((d 5), .inl (G.2.1 0, 30, .inl l9)), ((d 6), .inl (G.2.1 0, 30, .inl f9)), ((d 0), .inr (6, [.ref (d 1), .ref (d 2), .ref (d 3), .int (nI kn), .ref (d 4), .int (nI ln), .int th, .ref (d 5), .int (nI tm), .ref (d 6), .int (nI kp), .int (nI ((jj + 1) + 1)), .int 0])), ((d 4), .inl (G.2.1 0, 60, .inl t9))] H := hP
          have hD : va_D A [((d 1), .inl (G.2.1 0, 80, .inl s9)), ((d 5), .inl (G.2.1 0, 30, .inl l9)), ((d 6), .inl (G.2.1 0, 30, .inl f9)), ((d 0), .inr (6, [.ref (d 1), .ref (d 2), .ref (d 3), .int (nI kn), .ref (d 4), .int (nI ln), .int th, .ref (d 5), .int (nI tm), .ref (d 6), .int (nI kp), .int (nI ((jj + 1) + 1)), .int 0])), ((d 4), .inl (G.2.1 0, 60, .inl t9))] := hD
          refine lv_bipush (v := 48) hx hb dX6_part_168 (by decide) ?_
          refine lv_isub hx hb dX6_part_170 ?_
          refine z_top (dgI rfl) ?_
          refine lv_istore_n (lv' := [(2, .int (nI d1)), (0, .ref (d 0)), (1, .int 1)]) hx hb dX6_part_171 rfl hl (by decide) rfl (fun ls hl => ?_)
          refine lv_aload_n hx hb dX6_part_172 rfl (lv_at hl 1 rfl) ?_
          refine lv_bipush (v := 48) hx hb dX6_part_173 (by decide) ?_
          refine lv_bipush (v := 57) hx hb dX6_part_175 (by decide) ?_
          have hPc := hP.sub (ws' := [((d 0), .inr (6, [.ref (d 1), .ref (d 2), .ref (d 3), .int (nI kn), .ref (d 4), .int (nI ln), .int th, .ref (d 5), .int (nI tm), .ref (d 6), .int (nI kp), .int (nI ((jj + 1) + 1)), .int 0])), ((d 4), .inl (G.2.1 0, 60, .inl t9))]) [3, 4] rfl
          have hDc := hD.sub (ws' := [((d 0), .inr (6, [.ref (d 1), .ref (d 2), .ref (d 3), .int (nI kn), .ref (d 4), .int (nI ln), .int th, .ref (d 5), .int (nI tm), .ref (d 6), .int (nI kp), .int (nI ((jj + 1) + 1)), .int 0])), ((d 4), .inl (G.2.1 0, 60, .inl t9))]) [3, 4] (by decide) rfl
          refine z_calli (wr := [((d 1), .inl (G.2.1 0, 80, .inl s9)), ((d 5), .inl (G.2.1 0, 30, .inl l9)), ((d 6), .inl (G.2.1 0, 30, .inl f9))]) (va_runV (As := [.int 48, .int 57]) (rest := []) ⟨hx, hb, hml, hown, hts⟩ (c_X6_isNext l G H.size d kn ln tm kp ((jj + 1) + 1) th 0 hln (by omega) t9 48 57) (cwV 2 hts gX6_part_X6_isNext rfl rfl rfl (by decide +kernel) ⟨(Nat.le_of_ble_eq_true rfl), (Nat.le_of_ble_eq_true rfl)⟩) (zV (ci := 6) (q0 := 0) hK hPc hDc rfl rfl) rfl rfl hl.1 rfl (lv_room (Nat.le_of_ble_eq_true rfl)) dX6_part_177 ⟨(Nat.le_of_ble_eq_true rfl), (Nat.le_of_ble_eq_true rfl)⟩) hP hD hS hA [3, 4] [0, 1, 2] rfl rfl (by decide) (by decide) (fun r_29 u_29 H locs hw_29 hP hD hS => ?_)
          have hq_29 : r_29 = 0 := hw_29.trans (if_neg (fun z => hno ⟨z.2.1, z.2.2.1, z.2.2.2⟩))
          subst hq_29
          have hP : va_P G.1 vwCl [((d 1), .inl (G.2.1 0, 80, .inl s9)), ((d 5), .inl (G.2.1 0, 30, .inl l9)), ((d 6), .inl (G.2.1 0, 30, .inl f9)), ((d 0), .inr (6, [.ref (d 1), .ref (d 2), .ref (d 3), .int (nI kn), .ref (d 4), .int (nI ln), .int th, .ref (d 5), .int (nI tm), .ref (d 6), .int (nI kp), .int (nI ((jj + 1) + 1)), .int 0])), ((d 4), .inl (G.2.1 0, 60, .inl t9))] H := hP
          have hD : va_D A [((d 1), .inl (G.2.1 0, 80, .inl s9)), ((d 5), .inl (G.2.1 0, 30, .inl l9)), ((d 6), .inl (G.2.1 0, 30, .inl f9)), ((d 0), .inr (6, [.ref (d 1), .ref (d 2), .ref (d 3), .int (nI kn), .ref (d 4), .int (nI ln), .int th, .ref (d 5), .int (nI tm), .ref (d 6), .int (nI kp), .int (nI ((jj + 1) + 1)), .int 0])), ((d 4), .inl (G.2.1 0, 60, .inl t9))] := hD
          refine lv_if_eq (tgt := 211) hx hb dX6_part_180 (by decide) (fun c_30 => ?_) (fun c_30 => ?_)
          · refine lv_iload_n hx hb dX6_part_211 rfl (lv_at hl 2 rfl) ?_
            refine lv_if_eq (tgt := 220) hx hb dX6_part_212 (by decide) (fun c_31 => ?_) (fun c_31 => ?_)
            · exact absurd c_31 (by decide)
            · refine lv_aload_n hx hb dX6_part_215 rfl (lv_at hl 1 rfl) ?_
              refine lv_iload_n hx hb dX6_part_216 rfl (lv_at hl 0 rfl) ?_
              have hPc := hP.sub (ws' := [((d 0), .inr (6, [.ref (d 1), .ref (d 2), .ref (d 3), .int (nI kn), .ref (d 4), .int (nI ln), .int th, .ref (d 5), .int (nI tm), .ref (d 6), .int (nI kp), .int (nI ((jj + 1) + 1)), .int 0])), ((d 1), .inl (G.2.1 0, 80, .inl s9))]) [3, 0] rfl
              have hDc := hD.sub (ws' := [((d 0), .inr (6, [.ref (d 1), .ref (d 2), .ref (d 3), .int (nI kn), .ref (d 4), .int (nI ln), .int th, .ref (d 5), .int (nI tm), .ref (d 6), .int (nI kp), .int (nI ((jj + 1) + 1)), .int 0])), ((d 1), .inl (G.2.1 0, 80, .inl s9))]) [3, 0] (by decide) rfl
              refine z_callv (wr := [((d 5), .inl (G.2.1 0, 30, .inl l9)), ((d 6), .inl (G.2.1 0, 30, .inl f9)), ((d 4), .inl (G.2.1 0, 60, .inl t9))]) (va_runV (As := [.int (nI d1)]) (rest := []) ⟨hx, hb, hml, hown, hts⟩ (c_X6_passes l G H.size d kn ln tm kp ((jj + 1) + 1) th 0 s9 (nI d1)) (cwV 1 hts gX6_part_X6_passes rfl rfl rfl (by decide +kernel) ⟨(Nat.le_of_ble_eq_true rfl), (Nat.le_of_ble_eq_true rfl)⟩) (zV (ci := 6) (q0 := 0) hK hPc hDc rfl rfl) rfl rfl hl.1 rfl (lv_room (Nat.le_of_ble_eq_true rfl)) dX6_part_217 ⟨(Nat.le_of_ble_eq_true rfl), (Nat.le_of_ble_eq_true rfl)⟩) hP hD hS hA [3, 0] [1, 2, 4] rfl rfl (by decide) (by decide) (fun u_32 H locs hw_32 hP hD hS => ?_)
              have hP : va_P G.1 vwCl [((d 5), .inl (G.2.1 0, 30, .inl l9)), ((d 6), .inl (G.2.1 0, 30, .inl f9)), ((d 4), .inl (G.2.1 0, 60, .inl t9)), ((d 0), .inr (6, [.ref (d 1), .ref (d 2), .ref (d 3), .int (nI kn), .ref (d 4), .int (nI ln), .int th, .ref (d 5), .int (nI tm), .ref (d 6), .int (nI kp), .int (nI ((jj + 1) + 1)), .int 0])), ((d 1), .inl (G.2.1 0, 80, .inl u_32))] H := hP
              have hD : va_D A [((d 5), .inl (G.2.1 0, 30, .inl l9)), ((d 6), .inl (G.2.1 0, 30, .inl f9)), ((d 4), .inl (G.2.1 0, 60, .inl t9)), ((d 0), .inr (6, [.ref (d 1), .ref (d 2), .ref (d 3), .int (nI kn), .ref (d 4), .int (nI ln), .int th, .ref (d 5), .int (nI tm), .ref (d 6), .int (nI kp), .int (nI ((jj + 1) + 1)), .int 0])), ((d 1), .inl (G.2.1 0, 80, .inl u_32))] := hD
              refine lv_goto (tgt := 264) hx hb dX6_part_220 (by decide) ?_
              have hP9 := hP.sub (ws' := [((d 0), .inr (6, [.ref (d 1), .ref (d 2), .ref (d 3), .int (nI kn), .ref (d 4), .int (nI ln), .int th, .ref (d 5), .int (nI tm), .ref (d 6), .int (nI kp), .int (nI ((jj + 1) + 1)), .int 0])), ((d 1), .inl (G.2.1 0, 80, .inl u_32)), ((d 4), .inl (G.2.1 0, 60, .inl t9)), ((d 5), .inl (G.2.1 0, 30, .inl l9)), ((d 6), .inl (G.2.1 0, 30, .inl f9))]) [3, 4, 2, 0, 1] rfl
              have hD9 := hD.sub (ws' := [((d 0), .inr (6, [.ref (d 1), .ref (d 2), .ref (d 3), .int (nI kn), .ref (d 4), .int (nI ln), .int th, .ref (d 5), .int (nI tm), .ref (d 6), .int (nI kp), .int (nI ((jj + 1) + 1)), .int 0])), ((d 1), .inl (G.2.1 0, 80, .inl u_32)), ((d 4), .inl (G.2.1 0, 60, .inl t9)), ((d 5), .inl (G.2.1 0, 30, .inl l9)), ((d 6), .inl (G.2.1 0, 30, .inl f9))]) [3, 4, 2, 0, 1] (by decide) rfl
              exact z_vret hx hb hr hlocks (u_32, (tm, l9), (kp, f9)) hP9 hD9 hS (Nat.le_of_ble_eq_true rfl) (Nat.le_of_ble_eq_true rfl) dX6_part_264 ⟨hw_32.trans (ptR_t hxt (tkN_1 hpe e1 b2)).symm, htm⟩
          · exact absurd rfl c_30
      · exact absurd rfl c_25
    · exact absurd rfl c_23
  · refine lv_aload_n hx hb dX6_part_0 rfl (lv_at hl 0 rfl) ?_
    refine lv_bipush (v := 102) hx hb dX6_part_1 (by decide) ?_
    refine lv_bipush (v := 102) hx hb dX6_part_3 (by decide) ?_
    have hPc := hP.sub (ws' := [((d 0), .inr (6, [.ref (d 1), .ref (d 2), .ref (d 3), .int (nI kn), .ref (d 4), .int (nI ln), .int th, .ref (d 5), .int (nI tm), .ref (d 6), .int (nI kp), .int (nI jj), .int 0])), ((d 4), .inl (G.2.1 0, 60, .inl t9))]) [0, 2] rfl
    have hDc := hD.sub (ws' := [((d 0), .inr (6, [.ref (d 1), .ref (d 2), .ref (d 3), .int (nI kn), .ref (d 4), .int (nI ln), .int th, .ref (d 5), .int (nI tm), .ref (d 6), .int (nI kp), .int (nI jj), .int 0])), ((d 4), .inl (G.2.1 0, 60, .inl t9))]) [0, 2] (by decide) rfl
    refine z_calli (wr := [((d 1), .inl (G.2.1 0, 80, .inl s9)), ((d 5), .inl (G.2.1 0, 30, .inl l9)), ((d 6), .inl (G.2.1 0, 30, .inl f9))]) (va_runV (As := [.int 102, .int 102]) (rest := []) ⟨hx, hb, hml, hown, hts⟩ (c_X6_isNext l G s.heap.size d kn ln tm kp jj th 0 hln (by omega) t9 102 102) (cwV 2 hts gX6_part_X6_isNext rfl rfl rfl (by decide +kernel) ⟨(Nat.le_of_ble_eq_true rfl), (Nat.le_of_ble_eq_true rfl)⟩) (zV (ci := 6) (q0 := 0) hK hPc hDc rfl rfl) rfl rfl hl.1 rfl (lv_room (Nat.le_of_ble_eq_true rfl)) dX6_part_5 ⟨(Nat.le_of_ble_eq_true rfl), (Nat.le_of_ble_eq_true rfl)⟩) hP hD hS hA [0, 2] [1, 3, 4] rfl rfl (by decide) (by decide) (fun r_33 u_33 H locs hw_33 hP hD hS => ?_)
    have hq_33 : r_33 = 0 := hw_33.trans (if_neg (nx_no hxt (by decide)))
    subst hq_33
    have hP : va_P G.1 vwCl [((d 1), .inl (G.2.1 0, 80, .inl s9)), ((d 5), .inl (G.2.1 0, 30, .inl l9)), ((d 6), .inl (G.2.1 0, 30, .inl f9)), ((d 0), .inr (6, [.ref (d 1), .ref (d 2), .ref (d 3), .int (nI kn), .ref (d 4), .int (nI ln), .int th, .ref (d 5), .int (nI tm), .ref (d 6), .int (nI kp), .int (nI jj), .int 0])), ((d 4), .inl (G.2.1 0, 60, .inl t9))] H := hP
    have hD : va_D A [((d 1), .inl (G.2.1 0, 80, .inl s9)), ((d 5), .inl (G.2.1 0, 30, .inl l9)), ((d 6), .inl (G.2.1 0, 30, .inl f9)), ((d 0), .inr (6, [.ref (d 1), .ref (d 2), .ref (d 3), .int (nI kn), .ref (d 4), .int (nI ln), .int th, .ref (d 5), .int (nI tm), .ref (d 6), .int (nI kp), .int (nI jj), .int 0])), ((d 4), .inl (G.2.1 0, 60, .inl t9))] := hD
    refine lv_if_eq (tgt := 96) hx hb dX6_part_8 (by decide) (fun c_34 => ?_) (fun c_34 => ?_)
    · refine lv_aload_n hx hb dX6_part_96 rfl (lv_at hl 0 rfl) ?_
      refine lv_bipush (v := 114) hx hb dX6_part_97 (by decide) ?_
      refine lv_bipush (v := 114) hx hb dX6_part_99 (by decide) ?_
      have hPc := hP.sub (ws' := [((d 0), .inr (6, [.ref (d 1), .ref (d 2), .ref (d 3), .int (nI kn), .ref (d 4), .int (nI ln), .int th, .ref (d 5), .int (nI tm), .ref (d 6), .int (nI kp), .int (nI jj), .int 0])), ((d 4), .inl (G.2.1 0, 60, .inl t9))]) [3, 4] rfl
      have hDc := hD.sub (ws' := [((d 0), .inr (6, [.ref (d 1), .ref (d 2), .ref (d 3), .int (nI kn), .ref (d 4), .int (nI ln), .int th, .ref (d 5), .int (nI tm), .ref (d 6), .int (nI kp), .int (nI jj), .int 0])), ((d 4), .inl (G.2.1 0, 60, .inl t9))]) [3, 4] (by decide) rfl
      refine z_calli (wr := [((d 1), .inl (G.2.1 0, 80, .inl s9)), ((d 5), .inl (G.2.1 0, 30, .inl l9)), ((d 6), .inl (G.2.1 0, 30, .inl f9))]) (va_runV (As := [.int 114, .int 114]) (rest := []) ⟨hx, hb, hml, hown, hts⟩ (c_X6_isNext l G H.size d kn ln tm kp jj th 0 hln (by omega) t9 114 114) (cwV 2 hts gX6_part_X6_isNext rfl rfl rfl (by decide +kernel) ⟨(Nat.le_of_ble_eq_true rfl), (Nat.le_of_ble_eq_true rfl)⟩) (zV (ci := 6) (q0 := 0) hK hPc hDc rfl rfl) rfl rfl hl.1 rfl (lv_room (Nat.le_of_ble_eq_true rfl)) dX6_part_101 ⟨(Nat.le_of_ble_eq_true rfl), (Nat.le_of_ble_eq_true rfl)⟩) hP hD hS hA [3, 4] [0, 1, 2] rfl rfl (by decide) (by decide) (fun r_35 u_35 H locs hw_35 hP hD hS => ?_)
      have hq_35 : r_35 = 0 := hw_35.trans (if_neg (nx_no hxt (by decide)))
      subst hq_35
      have hP : va_P G.1 vwCl [((d 1), .inl (G.2.1 0, 80, .inl s9)), ((d 5), .inl (G.2.1 0, 30, .inl l9)), ((d 6), .inl (G.2.1 0, 30, .inl f9)), ((d 0), .inr (6, [.ref (d 1), .ref (d 2), .ref (d 3), .int (nI kn), .ref (d 4), .int (nI ln), .int th, .ref (d 5), .int (nI tm), .ref (d 6), .int (nI kp), .int (nI jj), .int 0])), ((d 4), .inl (G.2.1 0, 60, .inl t9))] H := hP
      have hD : va_D A [((d 1), .inl (G.2.1 0, 80, .inl s9)), ((d 5), .inl (G.2.1 0, 30, .inl l9)), ((d 6), .inl (G.2.1 0, 30, .inl f9)), ((d 0), .inr (6, [.ref (d 1), .ref (d 2), .ref (d 3), .int (nI kn), .ref (d 4), .int (nI ln), .int th, .ref (d 5), .int (nI tm), .ref (d 6), .int (nI kp), .int (nI jj), .int 0])), ((d 4), .inl (G.2.1 0, 60, .inl t9))] := hD
      refine lv_if_eq (tgt := 139) hx hb dX6_part_104 (by decide) (fun c_36 => ?_) (fun c_36 => ?_)
      · refine lv_aload_n hx hb dX6_part_139 rfl (lv_at hl 0 rfl) ?_
        refine lv_bipush (v := 116) hx hb dX6_part_140 (by decide) ?_
        refine lv_bipush (v := 116) hx hb dX6_part_142 (by decide) ?_
        have hPc := hP.sub (ws' := [((d 0), .inr (6, [.ref (d 1), .ref (d 2), .ref (d 3), .int (nI kn), .ref (d 4), .int (nI ln), .int th, .ref (d 5), .int (nI tm), .ref (d 6), .int (nI kp), .int (nI jj), .int 0])), ((d 4), .inl (G.2.1 0, 60, .inl t9))]) [3, 4] rfl
        have hDc := hD.sub (ws' := [((d 0), .inr (6, [.ref (d 1), .ref (d 2), .ref (d 3), .int (nI kn), .ref (d 4), .int (nI ln), .int th, .ref (d 5), .int (nI tm), .ref (d 6), .int (nI kp), .int (nI jj), .int 0])), ((d 4), .inl (G.2.1 0, 60, .inl t9))]) [3, 4] (by decide) rfl
        refine z_calli (wr := [((d 1), .inl (G.2.1 0, 80, .inl s9)), ((d 5), .inl (G.2.1 0, 30, .inl l9)), ((d 6), .inl (G.2.1 0, 30, .inl f9))]) (va_runV (As := [.int 116, .int 116]) (rest := []) ⟨hx, hb, hml, hown, hts⟩ (c_X6_isNext l G H.size d kn ln tm kp jj th 0 hln (by omega) t9 116 116) (cwV 2 hts gX6_part_X6_isNext rfl rfl rfl (by decide +kernel) ⟨(Nat.le_of_ble_eq_true rfl), (Nat.le_of_ble_eq_true rfl)⟩) (zV (ci := 6) (q0 := 0) hK hPc hDc rfl rfl) rfl rfl hl.1 rfl (lv_room (Nat.le_of_ble_eq_true rfl)) dX6_part_144 ⟨(Nat.le_of_ble_eq_true rfl), (Nat.le_of_ble_eq_true rfl)⟩) hP hD hS hA [3, 4] [0, 1, 2] rfl rfl (by decide) (by decide) (fun r_37 u_37 H locs hw_37 hP hD hS => ?_)
        have hq_37 : r_37 = 1 := hw_37.trans (if_pos (nx_yes hjn hxt))
        subst hq_37
        have hP : va_P G.1 vwCl [((d 1), .inl (G.2.1 0, 80, .inl s9)), ((d 5), .inl (G.2.1 0, 30, .inl l9)), ((d 6), .inl (G.2.1 0, 30, .inl f9)), ((d 0), .inr (6, [.ref (d 1), .ref (d 2), .ref (d 3), .int (nI kn), .ref (d 4), .int (nI ln), .int th, .ref (d 5), .int (nI tm), .ref (d 6), .int (nI kp), .int (nI jj), .int 0])), ((d 4), .inl (G.2.1 0, 60, .inl t9))] H := hP
        have hD : va_D A [((d 1), .inl (G.2.1 0, 80, .inl s9)), ((d 5), .inl (G.2.1 0, 30, .inl l9)), ((d 6), .inl (G.2.1 0, 30, .inl f9)), ((d 0), .inr (6, [.ref (d 1), .ref (d 2), .ref (d 3), .int (nI kn), .ref (d 4), .int (nI ln), .int th, .ref (d 5), .int (nI tm), .ref (d 6), .int (nI kp), .int (nI jj), .int 0])), ((d 4), .inl (G.2.1 0, 60, .inl t9))] := hD
        refine lv_if_eq (tgt := 223) hx hb dX6_part_147 (by decide) (fun c_38 => ?_) (fun c_38 => ?_)
        · exact absurd c_38 (by decide)
        · refine lv_aload_n hx hb dX6_part_150 rfl (lv_at hl 0 rfl) ?_
          refine lv_dup hx hb dX6_part_151 rfl ?_
          refine va_get (D := G.1) (ci := 6) (v := .int (nI jj)) (C := RX6) (T := TX6) (N := 13) hx hb hts zi_X6_part_X6 hown hK.1 hP 3 rfl rfl 11 (by decide) (hts _ zw_X6_part_f119) (fun _ h9 => h9) rfl dX6_part_152 ?_
          refine lv_iconst (v := 1) hx hb dX6_part_155 (by decide) ?_
          refine lv_iadd hx hb dX6_part_156 ?_
          refine z_top (nI_1 _) ?_
          refine va_put (D := G.1) (ci := 6) (v := .int (nI (jj + 1))) (ty := .int) (C := RX6) (T := TX6) (N := 13) hx hb hts zi_X6_part_X6 tyX6 tyX6_ok nmX6 hown hK.1 hP hD hS 3 rfl rfl 11 (by decide) (hts _ zw_X6_part_f119) (fun _ h9 => h9) rfl (by decide +kernel) rfl rfl (Nat.le_of_ble_eq_true rfl) dX6_part_157 (fun H locs hP hD hS => ?_)
          have hP : va_P G.1 vwCl [((d 1), .inl (G.2.1 0, 80, .inl s9)), ((d 5), .inl (G.2.1 0, 30, .inl l9)), ((d 6), .inl (G.2.1 0, 30, .inl f9)), ((d 0), .inr (6, [.ref (d 1), .ref (d 2), .ref (d 3), .int (nI kn), .ref (d 4), .int (nI ln), .int th, .ref (d 5), .int (nI tm), .ref (d 6), .int (nI kp), .int (nI (jj + 1)), .int 0])), ((d 4), .inl (G.2.1 0, 60, .inl t9))] H := hP
          have hD : va_D A [((d 1), .inl (G.2.1 0, 80, .inl s9)), ((d 5), .inl (G.2.1 0, 30, .inl l9)), ((d 6), .inl (G.2.1 0, 30, .inl f9)), ((d 0), .inr (6, [.ref (d 1), .ref (d 2), .ref (d 3), .int (nI kn), .ref (d 4), .int (nI ln), .int th, .ref (d 5), .int (nI tm), .ref (d 6), .int (nI kp), .int (nI (jj + 1)), .int 0])), ((d 4), .inl (G.2.1 0, 60, .inl t9))] := hD
          refine lv_aload_n hx hb dX6_part_160 rfl (lv_at hl 0 rfl) ?_
          refine lv_bipush (v := 49) hx hb dX6_part_161 (by decide) ?_
          refine lv_bipush (v := 57) hx hb dX6_part_163 (by decide) ?_
          have hPc := hP.sub (ws' := [((d 0), .inr (6, [.ref (d 1), .ref (d 2), .ref (d 3), .int (nI kn), .ref (d 4), .int (nI ln), .int th, .ref (d 5), .int (nI tm), .ref (d 6), .int (nI kp), .int (nI (jj + 1)), .int 0])), ((d 4), .inl (G.2.1 0, 60, .inl t9))]) [3, 4] rfl
          have hDc := hD.sub (ws' := [((d 0), .inr (6, [.ref (d 1), .ref (d 2), .ref (d 3), .int (nI kn), .ref (d 4), .int (nI ln), .int th, .ref (d 5), .int (nI tm), .ref (d 6), .int (nI kp), .int (nI (jj + 1)), .int 0])), ((d 4), .inl (G.2.1 0, 60, .inl t9))]) [3, 4] (by decide) rfl
          refine z_calli (wr := [((d 1), .inl (G.2.1 0, 80, .inl s9)), ((d 5), .inl (G.2.1 0, 30, .inl l9)), ((d 6), .inl (G.2.1 0, 30, .inl f9))]) (va_runV (As := [.int 49, .int 57]) (rest := []) ⟨hx, hb, hml, hown, hts⟩ (c_X6_sign l G H.size d kn ln tm kp (jj + 1) th 0 hln (by omega) t9 49 57) (cwV 2 hts gX6_part_X6_sign rfl rfl rfl (by decide +kernel) ⟨(Nat.le_of_ble_eq_true rfl), (Nat.le_of_ble_eq_true rfl)⟩) (zV (ci := 6) (q0 := 0) hK hPc hDc rfl rfl) rfl rfl hl.1 rfl (lv_room (Nat.le_of_ble_eq_true rfl)) dX6_part_165 ⟨(Nat.le_of_ble_eq_true rfl), (Nat.le_of_ble_eq_true rfl)⟩) hP hD hS hA [3, 4] [0, 1, 2] rfl rfl (by decide) (by decide) (fun r_39 u_39 H locs hw_39 hP hD hS => ?_)
          obtain ⟨hv_39, hu_39⟩ := hw_39
          have hq_39 : r_39 = (nI (48 + d1)) := hv_39.trans ((sgV_lt (by omega)).trans e1)
          have hg_39 : u_39 = ((jj + 1) + 1, 0) := hu_39.trans (sgF_ok (by omega) (dg_in (l := 49) (b := 57) rfl rfl e1 (by omega) (by omega) (by omega)))
          subst hq_39
          subst hg_39
          have hP : va_P G.1 vwCl [((d 1), .inl (G.2.1 0, 80, .inl s9)), ((d 5), .inl (G.2.1 0, 30, .inl l9)), ((d 6), .inl (G.2.1 0, 30, .inl f9)), ((d 0), .inr (6, [.ref (d 1), .ref (d 2), .ref (d 3), .int (nI kn), .ref (d 4), .int (nI ln), .int th, .ref (d 5), .int (nI tm), .ref (d 6), .int (nI kp), .int (nI ((jj + 1) + 1)), .int 0])), ((d 4), .inl (G.2.1 0, 60, .inl t9))] H := hP
          have hD : va_D A [((d 1), .inl (G.2.1 0, 80, .inl s9)), ((d 5), .inl (G.2.1 0, 30, .inl l9)), ((d 6), .inl (G.2.1 0, 30, .inl f9)), ((d 0), .inr (6, [.ref (d 1), .ref (d 2), .ref (d 3), .int (nI kn), .ref (d 4), .int (nI ln), .int th, .ref (d 5), .int (nI tm), .ref (d 6), .int (nI kp), .int (nI ((jj + 1) + 1)), .int 0])), ((d 4), .inl (G.2.1 0, 60, .inl t9))] := hD
          refine lv_bipush (v := 48) hx hb dX6_part_168 (by decide) ?_
          refine lv_isub hx hb dX6_part_170 ?_
          refine z_top (dgI rfl) ?_
          refine lv_istore_n (lv' := [(2, .int (nI d1)), (0, .ref (d 0)), (1, .int 1)]) hx hb dX6_part_171 rfl hl (by decide) rfl (fun ls hl => ?_)
          refine lv_aload_n hx hb dX6_part_172 rfl (lv_at hl 1 rfl) ?_
          refine lv_bipush (v := 48) hx hb dX6_part_173 (by decide) ?_
          refine lv_bipush (v := 57) hx hb dX6_part_175 (by decide) ?_
          have hPc := hP.sub (ws' := [((d 0), .inr (6, [.ref (d 1), .ref (d 2), .ref (d 3), .int (nI kn), .ref (d 4), .int (nI ln), .int th, .ref (d 5), .int (nI tm), .ref (d 6), .int (nI kp), .int (nI ((jj + 1) + 1)), .int 0])), ((d 4), .inl (G.2.1 0, 60, .inl t9))]) [3, 4] rfl
          have hDc := hD.sub (ws' := [((d 0), .inr (6, [.ref (d 1), .ref (d 2), .ref (d 3), .int (nI kn), .ref (d 4), .int (nI ln), .int th, .ref (d 5), .int (nI tm), .ref (d 6), .int (nI kp), .int (nI ((jj + 1) + 1)), .int 0])), ((d 4), .inl (G.2.1 0, 60, .inl t9))]) [3, 4] (by decide) rfl
          refine z_calli (wr := [((d 1), .inl (G.2.1 0, 80, .inl s9)), ((d 5), .inl (G.2.1 0, 30, .inl l9)), ((d 6), .inl (G.2.1 0, 30, .inl f9))]) (va_runV (As := [.int 48, .int 57]) (rest := []) ⟨hx, hb, hml, hown, hts⟩ (c_X6_isNext l G H.size d kn ln tm kp ((jj + 1) + 1) th 0 hln (by omega) t9 48 57) (cwV 2 hts gX6_part_X6_isNext rfl rfl rfl (by decide +kernel) ⟨(Nat.le_of_ble_eq_true rfl), (Nat.le_of_ble_eq_true rfl)⟩) (zV (ci := 6) (q0 := 0) hK hPc hDc rfl rfl) rfl rfl hl.1 rfl (lv_room (Nat.le_of_ble_eq_true rfl)) dX6_part_177 ⟨(Nat.le_of_ble_eq_true rfl), (Nat.le_of_ble_eq_true rfl)⟩) hP hD hS hA [3, 4] [0, 1, 2] rfl rfl (by decide) (by decide) (fun r_40 u_40 H locs hw_40 hP hD hS => ?_)
          have hq_40 : r_40 = 1 := hw_40.trans (if_pos ⟨rfl, hj2, dg_in (l := 48) (b := 57) rfl rfl e2 (by omega) (by omega) (by omega)⟩)
          subst hq_40
          have hP : va_P G.1 vwCl [((d 1), .inl (G.2.1 0, 80, .inl s9)), ((d 5), .inl (G.2.1 0, 30, .inl l9)), ((d 6), .inl (G.2.1 0, 30, .inl f9)), ((d 0), .inr (6, [.ref (d 1), .ref (d 2), .ref (d 3), .int (nI kn), .ref (d 4), .int (nI ln), .int th, .ref (d 5), .int (nI tm), .ref (d 6), .int (nI kp), .int (nI ((jj + 1) + 1)), .int 0])), ((d 4), .inl (G.2.1 0, 60, .inl t9))] H := hP
          have hD : va_D A [((d 1), .inl (G.2.1 0, 80, .inl s9)), ((d 5), .inl (G.2.1 0, 30, .inl l9)), ((d 6), .inl (G.2.1 0, 30, .inl f9)), ((d 0), .inr (6, [.ref (d 1), .ref (d 2), .ref (d 3), .int (nI kn), .ref (d 4), .int (nI ln), .int th, .ref (d 5), .int (nI tm), .ref (d 6), .int (nI kp), .int (nI ((jj + 1) + 1)), .int 0])), ((d 4), .inl (G.2.1 0, 60, .inl t9))] := hD
          refine lv_if_eq (tgt := 211) hx hb dX6_part_180 (by decide) (fun c_41 => ?_) (fun c_41 => ?_)
          · exact absurd c_41 (by decide)
          · refine lv_bipush (v := 10) hx hb dX6_part_183 (by decide) ?_
            refine lv_iload_n hx hb dX6_part_185 rfl (lv_at hl 0 rfl) ?_
            refine lv_imul hx hb dX6_part_186 ?_
            refine z_top (show 10 * nI d1 = nI (10 * d1) from pk_mul 10 d1) ?_
            refine lv_aload_n hx hb dX6_part_187 rfl (lv_at hl 1 rfl) ?_
            refine va_get (D := G.1) (ci := 6) (v := .ref (d 4)) (C := RX6) (T := TX6) (N := 13) hx hb hts zi_X6_part_X6 hown hK.1 hP 3 rfl rfl 4 (by decide) (hts _ zw_X6_part_f19) (fun _ h9 => h9) rfl dX6_part_188 ?_
            refine lv_aload_n hx hb dX6_part_191 rfl (lv_at hl 1 rfl) ?_
            refine va_get (D := G.1) (ci := 6) (v := .int (nI ((jj + 1) + 1))) (C := RX6) (T := TX6) (N := 13) hx hb hts zi_X6_part_X6 hown hK.1 hP 3 rfl rfl 11 (by decide) (hts _ zw_X6_part_f119) (fun _ h9 => h9) rfl dX6_part_192 ?_
            refine z_iald (k := (jj + 1 + 1)) hx hb hK.1 hP 4 0 rfl rfl rfl (by omega) (by omega) dX6_part_195 ?_
            refine lv_iadd hx hb dX6_part_196 ?_
            refine lv_bipush (v := 48) hx hb dX6_part_197 (by decide) ?_
            refine lv_isub hx hb dX6_part_199 ?_
            refine z_top (show nI (10 * d1) + t9 (jj + 1 + 1) - 48 = nI (10 * d1 + d2) by rw [show nI (10 * d1) = 10 * nI d1 from (pk_mul 10 d1).symm]; exact dgI2 rfl e2) ?_
            refine lv_istore_n (lv' := [(2, .int (nI (10 * d1 + d2))), (0, .ref (d 0)), (1, .int 1)]) hx hb dX6_part_200 rfl hl (by decide) rfl (fun ls hl => ?_)
            refine lv_aload_n hx hb dX6_part_201 rfl (lv_at hl 1 rfl) ?_
            refine lv_dup hx hb dX6_part_202 rfl ?_
            refine va_get (D := G.1) (ci := 6) (v := .int (nI ((jj + 1) + 1))) (C := RX6) (T := TX6) (N := 13) hx hb hts zi_X6_part_X6 hown hK.1 hP 3 rfl rfl 11 (by decide) (hts _ zw_X6_part_f119) (fun _ h9 => h9) rfl dX6_part_203 ?_
            refine lv_iconst (v := 1) hx hb dX6_part_206 (by decide) ?_
            refine lv_iadd hx hb dX6_part_207 ?_
            refine z_top (nI_1 _) ?_
            refine va_put (D := G.1) (ci := 6) (v := .int (nI (((jj + 1) + 1) + 1))) (ty := .int) (C := RX6) (T := TX6) (N := 13) hx hb hts zi_X6_part_X6 tyX6 tyX6_ok nmX6 hown hK.1 hP hD hS 3 rfl rfl 11 (by decide) (hts _ zw_X6_part_f119) (fun _ h9 => h9) rfl (by decide +kernel) rfl rfl (Nat.le_of_ble_eq_true rfl) dX6_part_208 (fun H locs hP hD hS => ?_)
            have hP : va_P G.1 vwCl [((d 1), .inl (G.2.1 0, 80, .inl s9)), ((d 5), .inl (G.2.1 0, 30, .inl l9)), ((d 6), .inl (G.2.1 0, 30, .inl f9)), ((d 0), .inr (6, [.ref (d 1), .ref (d 2), .ref (d 3), .int (nI kn), .ref (d 4), .int (nI ln), .int th, .ref (d 5), .int (nI tm), .ref (d 6), .int (nI kp), .int (nI (((jj + 1) + 1) + 1)), .int 0])), ((d 4), .inl (G.2.1 0, 60, .inl t9))] H := hP
            have hD : va_D A [((d 1), .inl (G.2.1 0, 80, .inl s9)), ((d 5), .inl (G.2.1 0, 30, .inl l9)), ((d 6), .inl (G.2.1 0, 30, .inl f9)), ((d 0), .inr (6, [.ref (d 1), .ref (d 2), .ref (d 3), .int (nI kn), .ref (d 4), .int (nI ln), .int th, .ref (d 5), .int (nI tm), .ref (d 6), .int (nI kp), .int (nI (((jj + 1) + 1) + 1)), .int 0])), ((d 4), .inl (G.2.1 0, 60, .inl t9))] := hD
            refine lv_iload_n hx hb dX6_part_211 rfl (lv_at hl 2 rfl) ?_
            refine lv_if_eq (tgt := 220) hx hb dX6_part_212 (by decide) (fun c_42 => ?_) (fun c_42 => ?_)
            · exact absurd c_42 (by decide)
            · refine lv_aload_n hx hb dX6_part_215 rfl (lv_at hl 1 rfl) ?_
              refine lv_iload_n hx hb dX6_part_216 rfl (lv_at hl 0 rfl) ?_
              have hPc := hP.sub (ws' := [((d 0), .inr (6, [.ref (d 1), .ref (d 2), .ref (d 3), .int (nI kn), .ref (d 4), .int (nI ln), .int th, .ref (d 5), .int (nI tm), .ref (d 6), .int (nI kp), .int (nI (((jj + 1) + 1) + 1)), .int 0])), ((d 1), .inl (G.2.1 0, 80, .inl s9))]) [3, 0] rfl
              have hDc := hD.sub (ws' := [((d 0), .inr (6, [.ref (d 1), .ref (d 2), .ref (d 3), .int (nI kn), .ref (d 4), .int (nI ln), .int th, .ref (d 5), .int (nI tm), .ref (d 6), .int (nI kp), .int (nI (((jj + 1) + 1) + 1)), .int 0])), ((d 1), .inl (G.2.1 0, 80, .inl s9))]) [3, 0] (by decide) rfl
              refine z_callv (wr := [((d 5), .inl (G.2.1 0, 30, .inl l9)), ((d 6), .inl (G.2.1 0, 30, .inl f9)), ((d 4), .inl (G.2.1 0, 60, .inl t9))]) (va_runV (As := [.int (nI (10 * d1 + d2))]) (rest := []) ⟨hx, hb, hml, hown, hts⟩ (c_X6_passes l G H.size d kn ln tm kp (((jj + 1) + 1) + 1) th 0 s9 (nI (10 * d1 + d2))) (cwV 1 hts gX6_part_X6_passes rfl rfl rfl (by decide +kernel) ⟨(Nat.le_of_ble_eq_true rfl), (Nat.le_of_ble_eq_true rfl)⟩) (zV (ci := 6) (q0 := 0) hK hPc hDc rfl rfl) rfl rfl hl.1 rfl (lv_room (Nat.le_of_ble_eq_true rfl)) dX6_part_217 ⟨(Nat.le_of_ble_eq_true rfl), (Nat.le_of_ble_eq_true rfl)⟩) hP hD hS hA [3, 0] [1, 2, 4] rfl rfl (by decide) (by decide) (fun u_43 H locs hw_43 hP hD hS => ?_)
              have hP : va_P G.1 vwCl [((d 5), .inl (G.2.1 0, 30, .inl l9)), ((d 6), .inl (G.2.1 0, 30, .inl f9)), ((d 4), .inl (G.2.1 0, 60, .inl t9)), ((d 0), .inr (6, [.ref (d 1), .ref (d 2), .ref (d 3), .int (nI kn), .ref (d 4), .int (nI ln), .int th, .ref (d 5), .int (nI tm), .ref (d 6), .int (nI kp), .int (nI (((jj + 1) + 1) + 1)), .int 0])), ((d 1), .inl (G.2.1 0, 80, .inl u_43))] H := hP
              have hD : va_D A [((d 5), .inl (G.2.1 0, 30, .inl l9)), ((d 6), .inl (G.2.1 0, 30, .inl f9)), ((d 4), .inl (G.2.1 0, 60, .inl t9)), ((d 0), .inr (6, [.ref (d 1), .ref (d 2), .ref (d 3), .int (nI kn), .ref (d 4), .int (nI ln), .int th, .ref (d 5), .int (nI tm), .ref (d 6), .int (nI kp), .int (nI (((jj + 1) + 1) + 1)), .int 0])), ((d 1), .inl (G.2.1 0, 80, .inl u_43))] := hD
              refine lv_goto (tgt := 264) hx hb dX6_part_220 (by decide) ?_
              have hP9 := hP.sub (ws' := [((d 0), .inr (6, [.ref (d 1), .ref (d 2), .ref (d 3), .int (nI kn), .ref (d 4), .int (nI ln), .int th, .ref (d 5), .int (nI tm), .ref (d 6), .int (nI kp), .int (nI (((jj + 1) + 1) + 1)), .int 0])), ((d 1), .inl (G.2.1 0, 80, .inl u_43)), ((d 4), .inl (G.2.1 0, 60, .inl t9)), ((d 5), .inl (G.2.1 0, 30, .inl l9)), ((d 6), .inl (G.2.1 0, 30, .inl f9))]) [3, 4, 2, 0, 1] rfl
              have hD9 := hD.sub (ws' := [((d 0), .inr (6, [.ref (d 1), .ref (d 2), .ref (d 3), .int (nI kn), .ref (d 4), .int (nI ln), .int th, .ref (d 5), .int (nI tm), .ref (d 6), .int (nI kp), .int (nI (((jj + 1) + 1) + 1)), .int 0])), ((d 1), .inl (G.2.1 0, 80, .inl u_43)), ((d 4), .inl (G.2.1 0, 60, .inl t9)), ((d 5), .inl (G.2.1 0, 30, .inl l9)), ((d 6), .inl (G.2.1 0, 30, .inl f9))]) [3, 4, 2, 0, 1] (by decide) rfl
              exact z_vret hx hb hr hlocks (u_43, (tm, l9), (kp, f9)) hP9 hD9 hS (Nat.le_of_ble_eq_true rfl) (Nat.le_of_ble_eq_true rfl) dX6_part_264 ⟨hw_43.trans (ptR_t hxt (tkN_2 hpe e1 b2 e2 b3)).symm, htm⟩
      · exact absurd rfl c_36
    · exact absurd rfl c_34
  · refine lv_aload_n hx hb dX6_part_0 rfl (lv_at hl 0 rfl) ?_
    refine lv_bipush (v := 102) hx hb dX6_part_1 (by decide) ?_
    refine lv_bipush (v := 102) hx hb dX6_part_3 (by decide) ?_
    have hPc := hP.sub (ws' := [((d 0), .inr (6, [.ref (d 1), .ref (d 2), .ref (d 3), .int (nI kn), .ref (d 4), .int (nI ln), .int th, .ref (d 5), .int (nI tm), .ref (d 6), .int (nI kp), .int (nI jj), .int 0])), ((d 4), .inl (G.2.1 0, 60, .inl t9))]) [0, 2] rfl
    have hDc := hD.sub (ws' := [((d 0), .inr (6, [.ref (d 1), .ref (d 2), .ref (d 3), .int (nI kn), .ref (d 4), .int (nI ln), .int th, .ref (d 5), .int (nI tm), .ref (d 6), .int (nI kp), .int (nI jj), .int 0])), ((d 4), .inl (G.2.1 0, 60, .inl t9))]) [0, 2] (by decide) rfl
    refine z_calli (wr := [((d 1), .inl (G.2.1 0, 80, .inl s9)), ((d 5), .inl (G.2.1 0, 30, .inl l9)), ((d 6), .inl (G.2.1 0, 30, .inl f9))]) (va_runV (As := [.int 102, .int 102]) (rest := []) ⟨hx, hb, hml, hown, hts⟩ (c_X6_isNext l G s.heap.size d kn ln tm kp jj th 0 hln (by omega) t9 102 102) (cwV 2 hts gX6_part_X6_isNext rfl rfl rfl (by decide +kernel) ⟨(Nat.le_of_ble_eq_true rfl), (Nat.le_of_ble_eq_true rfl)⟩) (zV (ci := 6) (q0 := 0) hK hPc hDc rfl rfl) rfl rfl hl.1 rfl (lv_room (Nat.le_of_ble_eq_true rfl)) dX6_part_5 ⟨(Nat.le_of_ble_eq_true rfl), (Nat.le_of_ble_eq_true rfl)⟩) hP hD hS hA [0, 2] [1, 3, 4] rfl rfl (by decide) (by decide) (fun r_44 u_44 H locs hw_44 hP hD hS => ?_)
    have hq_44 : r_44 = 0 := hw_44.trans (if_neg (nx_no hxt (by decide)))
    subst hq_44
    have hP : va_P G.1 vwCl [((d 1), .inl (G.2.1 0, 80, .inl s9)), ((d 5), .inl (G.2.1 0, 30, .inl l9)), ((d 6), .inl (G.2.1 0, 30, .inl f9)), ((d 0), .inr (6, [.ref (d 1), .ref (d 2), .ref (d 3), .int (nI kn), .ref (d 4), .int (nI ln), .int th, .ref (d 5), .int (nI tm), .ref (d 6), .int (nI kp), .int (nI jj), .int 0])), ((d 4), .inl (G.2.1 0, 60, .inl t9))] H := hP
    have hD : va_D A [((d 1), .inl (G.2.1 0, 80, .inl s9)), ((d 5), .inl (G.2.1 0, 30, .inl l9)), ((d 6), .inl (G.2.1 0, 30, .inl f9)), ((d 0), .inr (6, [.ref (d 1), .ref (d 2), .ref (d 3), .int (nI kn), .ref (d 4), .int (nI ln), .int th, .ref (d 5), .int (nI tm), .ref (d 6), .int (nI kp), .int (nI jj), .int 0])), ((d 4), .inl (G.2.1 0, 60, .inl t9))] := hD
    refine lv_if_eq (tgt := 96) hx hb dX6_part_8 (by decide) (fun c_45 => ?_) (fun c_45 => ?_)
    · refine lv_aload_n hx hb dX6_part_96 rfl (lv_at hl 0 rfl) ?_
      refine lv_bipush (v := 114) hx hb dX6_part_97 (by decide) ?_
      refine lv_bipush (v := 114) hx hb dX6_part_99 (by decide) ?_
      have hPc := hP.sub (ws' := [((d 0), .inr (6, [.ref (d 1), .ref (d 2), .ref (d 3), .int (nI kn), .ref (d 4), .int (nI ln), .int th, .ref (d 5), .int (nI tm), .ref (d 6), .int (nI kp), .int (nI jj), .int 0])), ((d 4), .inl (G.2.1 0, 60, .inl t9))]) [3, 4] rfl
      have hDc := hD.sub (ws' := [((d 0), .inr (6, [.ref (d 1), .ref (d 2), .ref (d 3), .int (nI kn), .ref (d 4), .int (nI ln), .int th, .ref (d 5), .int (nI tm), .ref (d 6), .int (nI kp), .int (nI jj), .int 0])), ((d 4), .inl (G.2.1 0, 60, .inl t9))]) [3, 4] (by decide) rfl
      refine z_calli (wr := [((d 1), .inl (G.2.1 0, 80, .inl s9)), ((d 5), .inl (G.2.1 0, 30, .inl l9)), ((d 6), .inl (G.2.1 0, 30, .inl f9))]) (va_runV (As := [.int 114, .int 114]) (rest := []) ⟨hx, hb, hml, hown, hts⟩ (c_X6_isNext l G H.size d kn ln tm kp jj th 0 hln (by omega) t9 114 114) (cwV 2 hts gX6_part_X6_isNext rfl rfl rfl (by decide +kernel) ⟨(Nat.le_of_ble_eq_true rfl), (Nat.le_of_ble_eq_true rfl)⟩) (zV (ci := 6) (q0 := 0) hK hPc hDc rfl rfl) rfl rfl hl.1 rfl (lv_room (Nat.le_of_ble_eq_true rfl)) dX6_part_101 ⟨(Nat.le_of_ble_eq_true rfl), (Nat.le_of_ble_eq_true rfl)⟩) hP hD hS hA [3, 4] [0, 1, 2] rfl rfl (by decide) (by decide) (fun r_46 u_46 H locs hw_46 hP hD hS => ?_)
      have hq_46 : r_46 = 0 := hw_46.trans (if_neg (nx_no hxt (by decide)))
      subst hq_46
      have hP : va_P G.1 vwCl [((d 1), .inl (G.2.1 0, 80, .inl s9)), ((d 5), .inl (G.2.1 0, 30, .inl l9)), ((d 6), .inl (G.2.1 0, 30, .inl f9)), ((d 0), .inr (6, [.ref (d 1), .ref (d 2), .ref (d 3), .int (nI kn), .ref (d 4), .int (nI ln), .int th, .ref (d 5), .int (nI tm), .ref (d 6), .int (nI kp), .int (nI jj), .int 0])), ((d 4), .inl (G.2.1 0, 60, .inl t9))] H := hP
      have hD : va_D A [((d 1), .inl (G.2.1 0, 80, .inl s9)), ((d 5), .inl (G.2.1 0, 30, .inl l9)), ((d 6), .inl (G.2.1 0, 30, .inl f9)), ((d 0), .inr (6, [.ref (d 1), .ref (d 2), .ref (d 3), .int (nI kn), .ref (d 4), .int (nI ln), .int th, .ref (d 5), .int (nI tm), .ref (d 6), .int (nI kp), .int (nI jj), .int 0])), ((d 4), .inl (G.2.1 0, 60, .inl t9))] := hD
      refine lv_if_eq (tgt := 139) hx hb dX6_part_104 (by decide) (fun c_47 => ?_) (fun c_47 => ?_)
      · refine lv_aload_n hx hb dX6_part_139 rfl (lv_at hl 0 rfl) ?_
        refine lv_bipush (v := 116) hx hb dX6_part_140 (by decide) ?_
        refine lv_bipush (v := 116) hx hb dX6_part_142 (by decide) ?_
        have hPc := hP.sub (ws' := [((d 0), .inr (6, [.ref (d 1), .ref (d 2), .ref (d 3), .int (nI kn), .ref (d 4), .int (nI ln), .int th, .ref (d 5), .int (nI tm), .ref (d 6), .int (nI kp), .int (nI jj), .int 0])), ((d 4), .inl (G.2.1 0, 60, .inl t9))]) [3, 4] rfl
        have hDc := hD.sub (ws' := [((d 0), .inr (6, [.ref (d 1), .ref (d 2), .ref (d 3), .int (nI kn), .ref (d 4), .int (nI ln), .int th, .ref (d 5), .int (nI tm), .ref (d 6), .int (nI kp), .int (nI jj), .int 0])), ((d 4), .inl (G.2.1 0, 60, .inl t9))]) [3, 4] (by decide) rfl
        refine z_calli (wr := [((d 1), .inl (G.2.1 0, 80, .inl s9)), ((d 5), .inl (G.2.1 0, 30, .inl l9)), ((d 6), .inl (G.2.1 0, 30, .inl f9))]) (va_runV (As := [.int 116, .int 116]) (rest := []) ⟨hx, hb, hml, hown, hts⟩ (c_X6_isNext l G H.size d kn ln tm kp jj th 0 hln (by omega) t9 116 116) (cwV 2 hts gX6_part_X6_isNext rfl rfl rfl (by decide +kernel) ⟨(Nat.le_of_ble_eq_true rfl), (Nat.le_of_ble_eq_true rfl)⟩) (zV (ci := 6) (q0 := 0) hK hPc hDc rfl rfl) rfl rfl hl.1 rfl (lv_room (Nat.le_of_ble_eq_true rfl)) dX6_part_144 ⟨(Nat.le_of_ble_eq_true rfl), (Nat.le_of_ble_eq_true rfl)⟩) hP hD hS hA [3, 4] [0, 1, 2] rfl rfl (by decide) (by decide) (fun r_48 u_48 H locs hw_48 hP hD hS => ?_)
        have hq_48 : r_48 = 0 := hw_48.trans (if_neg (nx_no hxt (by decide)))
        subst hq_48
        have hP : va_P G.1 vwCl [((d 1), .inl (G.2.1 0, 80, .inl s9)), ((d 5), .inl (G.2.1 0, 30, .inl l9)), ((d 6), .inl (G.2.1 0, 30, .inl f9)), ((d 0), .inr (6, [.ref (d 1), .ref (d 2), .ref (d 3), .int (nI kn), .ref (d 4), .int (nI ln), .int th, .ref (d 5), .int (nI tm), .ref (d 6), .int (nI kp), .int (nI jj), .int 0])), ((d 4), .inl (G.2.1 0, 60, .inl t9))] H := hP
        have hD : va_D A [((d 1), .inl (G.2.1 0, 80, .inl s9)), ((d 5), .inl (G.2.1 0, 30, .inl l9)), ((d 6), .inl (G.2.1 0, 30, .inl f9)), ((d 0), .inr (6, [.ref (d 1), .ref (d 2), .ref (d 3), .int (nI kn), .ref (d 4), .int (nI ln), .int th, .ref (d 5), .int (nI tm), .ref (d 6), .int (nI kp), .int (nI jj), .int 0])), ((d 4), .inl (G.2.1 0, 60, .inl t9))] := hD
        refine lv_if_eq (tgt := 223) hx hb dX6_part_147 (by decide) (fun c_49 => ?_) (fun c_49 => ?_)
        · refine lv_aload_n hx hb dX6_part_223 rfl (lv_at hl 0 rfl) ?_
          refine lv_bipush (v := 103) hx hb dX6_part_224 (by decide) ?_
          refine lv_bipush (v := 103) hx hb dX6_part_226 (by decide) ?_
          have hPc := hP.sub (ws' := [((d 0), .inr (6, [.ref (d 1), .ref (d 2), .ref (d 3), .int (nI kn), .ref (d 4), .int (nI ln), .int th, .ref (d 5), .int (nI tm), .ref (d 6), .int (nI kp), .int (nI jj), .int 0])), ((d 4), .inl (G.2.1 0, 60, .inl t9))]) [3, 4] rfl
          have hDc := hD.sub (ws' := [((d 0), .inr (6, [.ref (d 1), .ref (d 2), .ref (d 3), .int (nI kn), .ref (d 4), .int (nI ln), .int th, .ref (d 5), .int (nI tm), .ref (d 6), .int (nI kp), .int (nI jj), .int 0])), ((d 4), .inl (G.2.1 0, 60, .inl t9))]) [3, 4] (by decide) rfl
          refine z_calli (wr := [((d 1), .inl (G.2.1 0, 80, .inl s9)), ((d 5), .inl (G.2.1 0, 30, .inl l9)), ((d 6), .inl (G.2.1 0, 30, .inl f9))]) (va_runV (As := [.int 103, .int 103]) (rest := []) ⟨hx, hb, hml, hown, hts⟩ (c_X6_sign l G H.size d kn ln tm kp jj th 0 hln (by omega) t9 103 103) (cwV 2 hts gX6_part_X6_sign rfl rfl rfl (by decide +kernel) ⟨(Nat.le_of_ble_eq_true rfl), (Nat.le_of_ble_eq_true rfl)⟩) (zV (ci := 6) (q0 := 0) hK hPc hDc rfl rfl) rfl rfl hl.1 rfl (lv_room (Nat.le_of_ble_eq_true rfl)) dX6_part_228 ⟨(Nat.le_of_ble_eq_true rfl), (Nat.le_of_ble_eq_true rfl)⟩) hP hD hS hA [3, 4] [0, 1, 2] rfl rfl (by decide) (by decide) (fun r_50 u_50 H locs hw_50 hP hD hS => ?_)
          obtain ⟨hv_50, hu_50⟩ := hw_50
          have hq_50 : r_50 = 103 := hv_50.trans ((sgV_lt (by omega)).trans hxt)
          have hg_50 : u_50 = (jj + 1, 0) := hu_50.trans (sgF_ok (by omega) (by show 103 ≤ t9 jj ∧ t9 jj ≤ 103; rw [hxt]; decide))
          subst hq_50
          subst hg_50
          have hP : va_P G.1 vwCl [((d 1), .inl (G.2.1 0, 80, .inl s9)), ((d 5), .inl (G.2.1 0, 30, .inl l9)), ((d 6), .inl (G.2.1 0, 30, .inl f9)), ((d 0), .inr (6, [.ref (d 1), .ref (d 2), .ref (d 3), .int (nI kn), .ref (d 4), .int (nI ln), .int th, .ref (d 5), .int (nI tm), .ref (d 6), .int (nI kp), .int (nI (jj + 1)), .int 0])), ((d 4), .inl (G.2.1 0, 60, .inl t9))] H := hP
          have hD : va_D A [((d 1), .inl (G.2.1 0, 80, .inl s9)), ((d 5), .inl (G.2.1 0, 30, .inl l9)), ((d 6), .inl (G.2.1 0, 30, .inl f9)), ((d 0), .inr (6, [.ref (d 1), .ref (d 2), .ref (d 3), .int (nI kn), .ref (d 4), .int (nI ln), .int th, .ref (d 5), .int (nI tm), .ref (d 6), .int (nI kp), .int (nI (jj + 1)), .int 0])), ((d 4), .inl (G.2.1 0, 60, .inl t9))] := hD
          refine lv_istore_n (lv' := [(2, .int 103), (0, .ref (d 0)), (1, .int 1)]) hx hb dX6_part_231 rfl hl (by decide) rfl (fun ls hl => ?_)
          refine lv_aload_n hx hb dX6_part_232 rfl (lv_at hl 1 rfl) ?_
          refine lv_bipush (v := 48) hx hb dX6_part_233 (by decide) ?_
          refine lv_bipush (v := 57) hx hb dX6_part_235 (by decide) ?_
          have hPc := hP.sub (ws' := [((d 0), .inr (6, [.ref (d 1), .ref (d 2), .ref (d 3), .int (nI kn), .ref (d 4), .int (nI ln), .int th, .ref (d 5), .int (nI tm), .ref (d 6), .int (nI kp), .int (nI (jj + 1)), .int 0])), ((d 4), .inl (G.2.1 0, 60, .inl t9))]) [3, 4] rfl
          have hDc := hD.sub (ws' := [((d 0), .inr (6, [.ref (d 1), .ref (d 2), .ref (d 3), .int (nI kn), .ref (d 4), .int (nI ln), .int th, .ref (d 5), .int (nI tm), .ref (d 6), .int (nI kp), .int (nI (jj + 1)), .int 0])), ((d 4), .inl (G.2.1 0, 60, .inl t9))]) [3, 4] (by decide) rfl
          refine z_calli (wr := [((d 1), .inl (G.2.1 0, 80, .inl s9)), ((d 5), .inl (G.2.1 0, 30, .inl l9)), ((d 6), .inl (G.2.1 0, 30, .inl f9))]) (va_runV (As := [.int 48, .int 57]) (rest := []) ⟨hx, hb, hml, hown, hts⟩ (c_X6_sign l G H.size d kn ln tm kp (jj + 1) th 0 hln (by omega) t9 48 57) (cwV 2 hts gX6_part_X6_sign rfl rfl rfl (by decide +kernel) ⟨(Nat.le_of_ble_eq_true rfl), (Nat.le_of_ble_eq_true rfl)⟩) (zV (ci := 6) (q0 := 0) hK hPc hDc rfl rfl) rfl rfl hl.1 rfl (lv_room (Nat.le_of_ble_eq_true rfl)) dX6_part_237 ⟨(Nat.le_of_ble_eq_true rfl), (Nat.le_of_ble_eq_true rfl)⟩) hP hD hS hA [3, 4] [0, 1, 2] rfl rfl (by decide) (by decide) (fun r_51 u_51 H locs hw_51 hP hD hS => ?_)
          obtain ⟨hv_51, hu_51⟩ := hw_51
          have hq_51 : r_51 = (nI (48 + d1)) := hv_51.trans ((sgV_lt (by omega)).trans e1)
          have hg_51 : u_51 = ((jj + 1) + 1, 0) := hu_51.trans (sgF_ok (by omega) (dg_in (l := 48) (b := 57) rfl rfl e1 (by omega) (by omega) (by omega)))
          subst hq_51
          subst hg_51
          have hP : va_P G.1 vwCl [((d 1), .inl (G.2.1 0, 80, .inl s9)), ((d 5), .inl (G.2.1 0, 30, .inl l9)), ((d 6), .inl (G.2.1 0, 30, .inl f9)), ((d 0), .inr (6, [.ref (d 1), .ref (d 2), .ref (d 3), .int (nI kn), .ref (d 4), .int (nI ln), .int th, .ref (d 5), .int (nI tm), .ref (d 6), .int (nI kp), .int (nI ((jj + 1) + 1)), .int 0])), ((d 4), .inl (G.2.1 0, 60, .inl t9))] H := hP
          have hD : va_D A [((d 1), .inl (G.2.1 0, 80, .inl s9)), ((d 5), .inl (G.2.1 0, 30, .inl l9)), ((d 6), .inl (G.2.1 0, 30, .inl f9)), ((d 0), .inr (6, [.ref (d 1), .ref (d 2), .ref (d 3), .int (nI kn), .ref (d 4), .int (nI ln), .int th, .ref (d 5), .int (nI tm), .ref (d 6), .int (nI kp), .int (nI ((jj + 1) + 1)), .int 0])), ((d 4), .inl (G.2.1 0, 60, .inl t9))] := hD
          refine lv_bipush (v := 48) hx hb dX6_part_240 (by decide) ?_
          refine lv_isub hx hb dX6_part_242 ?_
          refine z_top (dgI rfl) ?_
          refine lv_istore_n (lv' := [(3, .int (nI d1)), (2, .int 103), (0, .ref (d 0)), (1, .int 1)]) hx hb dX6_part_243 rfl hl (by decide) rfl (fun ls hl => ?_)
          refine lv_aload_n hx hb dX6_part_244 rfl (lv_at hl 2 rfl) ?_
          refine va_get (D := G.1) (ci := 6) (v := .ref (d 1)) (C := RX6) (T := TX6) (N := 13) hx hb hts zi_X6_part_X6 hown hK.1 hP 3 rfl rfl 0 (by decide) (hts _ zw_X6_part_f7) (fun _ h9 => h9) rfl dX6_part_245 ?_
          refine lv_iconst (v := 0) hx hb dX6_part_248 (by decide) ?_
          refine lv_iload_n hx hb dX6_part_249 rfl (lv_at hl 3 rfl) ?_
          refine lv_if_eq (tgt := 257) hx hb dX6_part_250 (by decide) (fun c_52 => ?_) (fun c_52 => ?_)
          · exact absurd c_52 (by decide)
          · refine lv_iload_n hx hb dX6_part_253 rfl (lv_at hl 0 rfl) ?_
            refine lv_goto (tgt := 263) hx hb dX6_part_254 (by decide) ?_
            refine z_iast (k := 0) hx hb hK.1 hP hD hS 0 0 rfl rfl rfl (by omega) (by omega) dX6_part_263 (fun H locs hP hD hS => ?_)
            have hP : va_P G.1 vwCl [((d 1), .inl (G.2.1 0, 80, .inl (upd s9 0 (nI d1)))), ((d 5), .inl (G.2.1 0, 30, .inl l9)), ((d 6), .inl (G.2.1 0, 30, .inl f9)), ((d 0), .inr (6, [.ref (d 1), .ref (d 2), .ref (d 3), .int (nI kn), .ref (d 4), .int (nI ln), .int th, .ref (d 5), .int (nI tm), .ref (d 6), .int (nI kp), .int (nI ((jj + 1) + 1)), .int 0])), ((d 4), .inl (G.2.1 0, 60, .inl t9))] H := hP
            have hD : va_D A [((d 1), .inl (G.2.1 0, 80, .inl (upd s9 0 (nI d1)))), ((d 5), .inl (G.2.1 0, 30, .inl l9)), ((d 6), .inl (G.2.1 0, 30, .inl f9)), ((d 0), .inr (6, [.ref (d 1), .ref (d 2), .ref (d 3), .int (nI kn), .ref (d 4), .int (nI ln), .int th, .ref (d 5), .int (nI tm), .ref (d 6), .int (nI kp), .int (nI ((jj + 1) + 1)), .int 0])), ((d 4), .inl (G.2.1 0, 60, .inl t9))] := hD
            have hP9 := hP.sub (ws' := [((d 0), .inr (6, [.ref (d 1), .ref (d 2), .ref (d 3), .int (nI kn), .ref (d 4), .int (nI ln), .int th, .ref (d 5), .int (nI tm), .ref (d 6), .int (nI kp), .int (nI ((jj + 1) + 1)), .int 0])), ((d 1), .inl (G.2.1 0, 80, .inl (upd s9 0 (nI d1)))), ((d 4), .inl (G.2.1 0, 60, .inl t9)), ((d 5), .inl (G.2.1 0, 30, .inl l9)), ((d 6), .inl (G.2.1 0, 30, .inl f9))]) [3, 0, 4, 1, 2] rfl
            have hD9 := hD.sub (ws' := [((d 0), .inr (6, [.ref (d 1), .ref (d 2), .ref (d 3), .int (nI kn), .ref (d 4), .int (nI ln), .int th, .ref (d 5), .int (nI tm), .ref (d 6), .int (nI kp), .int (nI ((jj + 1) + 1)), .int 0])), ((d 1), .inl (G.2.1 0, 80, .inl (upd s9 0 (nI d1)))), ((d 4), .inl (G.2.1 0, 60, .inl t9)), ((d 5), .inl (G.2.1 0, 30, .inl l9)), ((d 6), .inl (G.2.1 0, 30, .inl f9))]) [3, 0, 4, 1, 2] (by decide) rfl
            exact z_vret hx hb hr hlocks (upd s9 0 (nI d1), (tm, l9), (kp, f9)) hP9 hD9 hS (Nat.le_of_ble_eq_true rfl) (Nat.le_of_ble_eq_true rfl) dX6_part_264 ⟨(ptR_g hxt e1 b1).symm, htm⟩
        · exact absurd rfl c_49
      · exact absurd rfl c_47
    · exact absurd rfl c_45
end
