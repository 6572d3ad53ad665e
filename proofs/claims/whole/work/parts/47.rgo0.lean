section
theorem zw_X6_go_f119 : Cond.fieldLink RX6 119 "LightReceiverModel" "place" "I" ∈ wsX6_go := by decide +kernel
theorem zi_X6_go_X6 : ∀ w ∈ wsX60, w ∈ wsX6_go := fun _ h => List.mem_cons_of_mem _ (List.mem_append_right _ h)
theorem zw_X6_go_f122 : Cond.fieldLink RX6 122 "LightReceiverModel" "isWrong" "Z" ∈ wsX6_go := by decide +kernel
theorem zw_X6_go_f116 : Cond.fieldLink RX6 116 "LightReceiverModel" "length" "I" ∈ wsX6_go := by decide +kernel
set_option maxHeartbeats 4000000 in
set_option maxRecDepth 100000 in
theorem c_X6_go0 (l : Launch) (G : zG) (sz : Nat) (d : Nat → Nat) (kn ln tm kp pl : Nat) (th wr : Int32) (hln : ln ≤ 60) (htm : True) (s9 l9 f9 t9 : zF)  : zMv l yX6_go wsX6_go ({ frames := 3, cells := 0, slots := 0, locals := 70 } : Room) [.ref (d 0), .int 0] G [((d 0), .inr (6, [.ref (d 1), .ref (d 2), .ref (d 3), .int (nI kn), .ref (d 4), .int (nI ln), .int th, .ref (d 5), .int (nI tm), .ref (d 6), .int (nI kp), .int (nI pl), .int wr])), ((d 1), .inl (G.2.1 0, 80, .inl s9)), ((d 4), .inl (G.2.1 0, 60, .inl t9)), ((d 5), .inl (G.2.1 0, 30, .inl l9)), ((d 6), .inl (G.2.1 0, 30, .inl f9))] (fun (u : (Nat × Int32) × Nat × zF) => gE t9 ln u.1 ∧ True) (fun u => [((d 0), .inr (6, [.ref (d 1), .ref (d 2), .ref (d 3), .int (nI kn), .ref (d 4), .int (nI ln), .int th, .ref (d 5), .int (nI u.2.1), .ref (d 6), .int (nI kp), .int (nI u.1.1), .int u.1.2])), ((d 1), .inl (G.2.1 0, 80, .inl s9)), ((d 4), .inl (G.2.1 0, 60, .inl t9)), ((d 5), .inl (G.2.1 0, 30, .inl u.2.2)), ((d 6), .inl (G.2.1 0, 30, .inl f9))]) sz 0 0 := by
  refine zMv_of (cc := cX6_go) (maxL := 4) (ret := none) (by decide) rfl (Nat.le_of_ble_eq_true rfl) ?_
  intro p e s m args below meth c A ls hx hb hr hml hts hown hlocks hnm hK hP hD hAe hS hA hl hsz
  have hown : s.vm.findClass RX6 = some m.cls := hown
  have hP : va_P G.1 vwCl [((d 0), .inr (6, [.ref (d 1), .ref (d 2), .ref (d 3), .int (nI kn), .ref (d 4), .int (nI ln), .int th, .ref (d 5), .int (nI tm), .ref (d 6), .int (nI kp), .int (nI pl), .int wr])), ((d 1), .inl (G.2.1 0, 80, .inl s9)), ((d 4), .inl (G.2.1 0, 60, .inl t9)), ((d 5), .inl (G.2.1 0, 30, .inl l9)), ((d 6), .inl (G.2.1 0, 30, .inl f9))] s.heap := hP
  have hD : va_D A [((d 0), .inr (6, [.ref (d 1), .ref (d 2), .ref (d 3), .int (nI kn), .ref (d 4), .int (nI ln), .int th, .ref (d 5), .int (nI tm), .ref (d 6), .int (nI kp), .int (nI pl), .int wr])), ((d 1), .inl (G.2.1 0, 80, .inl s9)), ((d 4), .inl (G.2.1 0, 60, .inl t9)), ((d 5), .inl (G.2.1 0, 30, .inl l9)), ((d 6), .inl (G.2.1 0, 30, .inl f9))] := hD
  have hl : lv_has ls 4 [(0, .ref (d 0)), (1, .int 0)] := hl
  refine lv_aload_n hx hb dX6_go_0 rfl (lv_at hl 0 rfl) ?_
  refine lv_iconst (v := 0) hx hb dX6_go_1 (by decide) ?_
  refine va_put (D := G.1) (ci := 6) (v := .int 0) (ty := .int) (C := RX6) (T := TX6) (N := 13) hx hb hts zi_X6_go_X6 tyX6 tyX6_ok nmX6 hown hK.1 hP hD hS 0 rfl rfl 11 (by decide) (hts _ zw_X6_go_f119) (fun _ h9 => h9) rfl (by decide +kernel) rfl rfl (Nat.le_of_ble_eq_true rfl) dX6_go_2 (fun H locs hP hD hS => ?_)
  have hP : va_P G.1 vwCl [((d 0), .inr (6, [.ref (d 1), .ref (d 2), .ref (d 3), .int (nI kn), .ref (d 4), .int (nI ln), .int th, .ref (d 5), .int (nI tm), .ref (d 6), .int (nI kp), .int 0, .int wr])), ((d 1), .inl (G.2.1 0, 80, .inl s9)), ((d 4), .inl (G.2.1 0, 60, .inl t9)), ((d 5), .inl (G.2.1 0, 30, .inl l9)), ((d 6), .inl (G.2.1 0, 30, .inl f9))] H := hP
  have hD : va_D A [((d 0), .inr (6, [.ref (d 1), .ref (d 2), .ref (d 3), .int (nI kn), .ref (d 4), .int (nI ln), .int th, .ref (d 5), .int (nI tm), .ref (d 6), .int (nI kp), .int 0, .int wr])), ((d 1), .inl (G.2.1 0, 80, .inl s9)), ((d 4), .inl (G.2.1 0, 60, .inl t9)), ((d 5), .inl (G.2.1 0, 30, .inl l9)), ((d 6), .inl (G.2.1 0, 30, .inl f9))] := hD
  refine lv_aload_n hx hb dX6_go_5 rfl (lv_at hl 0 rfl) ?_
  refine lv_iconst (v := 0) hx hb dX6_go_6 (by decide) ?_
  refine va_put (D := G.1) (ci := 6) (v := .int 0) (ty := .boolean) (C := RX6) (T := TX6) (N := 13) hx hb hts zi_X6_go_X6 tyX6 tyX6_ok nmX6 hown hK.1 hP hD hS 0 rfl rfl 12 (by decide) (hts _ zw_X6_go_f122) (fun _ h9 => h9) rfl (by decide +kernel) rfl rfl (Nat.le_of_ble_eq_true rfl) dX6_go_7 (fun H locs hP hD hS => ?_)
  have hP : va_P G.1 vwCl [((d 0), .inr (6, [.ref (d 1), .ref (d 2), .ref (d 3), .int (nI kn), .ref (d 4), .int (nI ln), .int th, .ref (d 5), .int (nI tm), .ref (d 6), .int (nI kp), .int 0, .int 0])), ((d 1), .inl (G.2.1 0, 80, .inl s9)), ((d 4), .inl (G.2.1 0, 60, .inl t9)), ((d 5), .inl (G.2.1 0, 30, .inl l9)), ((d 6), .inl (G.2.1 0, 30, .inl f9))] H := hP
  have hD : va_D A [((d 0), .inr (6, [.ref (d 1), .ref (d 2), .ref (d 3), .int (nI kn), .ref (d 4), .int (nI ln), .int th, .ref (d 5), .int (nI tm), .ref (d 6), .int (nI kp), .int 0, .int 0])), ((d 1), .inl (G.2.1 0, 80, .inl s9)), ((d 4), .inl (G.2.1 0, 60, .inl t9)), ((d 5), .inl (G.2.1 0, 30, .inl l9)), ((d 6), .inl (G.2.1 0, 30, .inl f9))] := hD
  refine lv_iconst (v := 1) hx hb dX6_go_10 (by decide) ?_
  refine lv_istore_n (lv' := [(2, .int 1), (0, .ref (d 0)), (1, .int 0)]) hx hb dX6_go_11 rfl hl (by decide) rfl (fun ls hl => ?_)
  have loop : ∀ (n9 : Nat) (jj : Nat) (tm8 : Nat) (li : zF), ln + 1 - jj < n9 → (jj ≤ ln) → (psT t9 jj = 0) → (True) → ∀ (H : Heap) (locs : List Loc) (ls : Array Slot), va_P G.1 vwCl [((d 0), .inr (6, [.ref (d 1), .ref (d 2), .ref (d 3), .int (nI kn), .ref (d 4), .int (nI ln), .int th, .ref (d 5), .int (nI tm8), .ref (d 6), .int (nI kp), .int (nI jj), .int 0])), ((d 1), .inl (G.2.1 0, 80, .inl s9)), ((d 4), .inl (G.2.1 0, 60, .inl t9)), ((d 5), .inl (G.2.1 0, 30, .inl li)), ((d 6), .inl (G.2.1 0, 30, .inl f9))] H → va_D A [((d 0), .inr (6, [.ref (d 1), .ref (d 2), .ref (d 3), .int (nI kn), .ref (d 4), .int (nI ln), .int th, .ref (d 5), .int (nI tm8), .ref (d 6), .int (nI kp), .int (nI jj), .int 0])), ((d 1), .inl (G.2.1 0, 80, .inl s9)), ((d 4), .inl (G.2.1 0, 60, .inl t9)), ((d 5), .inl (G.2.1 0, 30, .inl li)), ((d 6), .inl (G.2.1 0, 30, .inl f9))] → va_S A s.heap H locs → lv_has ls 4 [(0, .ref (d 0)), (1, .int 0), (2, .int 1)] → W p l e ({ frames := 3, cells := 0, slots := 0, locals := 70 } : Room) s m args below meth c H locs 0 0 (MQ below (zQv G (fun (u : (Nat × Int32) × Nat × zF) => gE t9 ln u.1 ∧ True) (fun u => [((d 0), .inr (6, [.ref (d 1), .ref (d 2), .ref (d 3), .int (nI kn), .ref (d 4), .int (nI ln), .int th, .ref (d 5), .int (nI u.2.1), .ref (d 6), .int (nI kp), .int (nI u.1.1), .int u.1.2])), ((d 1), .inl (G.2.1 0, 80, .inl s9)), ((d 4), .inl (G.2.1 0, 60, .inl t9)), ((d 5), .inl (G.2.1 0, 30, .inl u.2.2)), ((d 6), .inl (G.2.1 0, 30, .inl f9))]) A) args s 0 0 A) (F0 m 12 ls []) := by
    intro n9
    induction n9 with
    | zero =>
      intro jj tm8 li hm9
      exact absurd hm9 (Nat.not_lt_zero _)
    | succ n9 ih =>
      intro jj tm8 li hm9 hjl hj0 htm8 H locs ls hP hD hS hl
      refine lv_iload_n hx hb dX6_go_12 rfl (lv_at hl 2 rfl) ?_
      refine lv_if_eq (tgt := 74) hx hb dX6_go_13 (by decide) (fun c_1 => ?_) (fun c_1 => ?_)
      · exact absurd c_1 (by decide)
      · refine lv_aload_n hx hb dX6_go_16 rfl (lv_at hl 0 rfl) ?_
        refine lv_iload_n hx hb dX6_go_17 rfl (lv_at hl 1 rfl) ?_
        have hPc := hP.sub (ws' := [((d 0), .inr (6, [.ref (d 1), .ref (d 2), .ref (d 3), .int (nI kn), .ref (d 4), .int (nI ln), .int th, .ref (d 5), .int (nI tm8), .ref (d 6), .int (nI kp), .int (nI jj), .int 0])), ((d 1), .inl (G.2.1 0, 80, .inl s9)), ((d 4), .inl (G.2.1 0, 60, .inl t9)), ((d 5), .inl (G.2.1 0, 30, .inl li)), ((d 6), .inl (G.2.1 0, 30, .inl f9))]) [0, 1, 2, 3, 4] rfl
        have hDc := hD.sub (ws' := [((d 0), .inr (6, [.ref (d 1), .ref (d 2), .ref (d 3), .int (nI kn), .ref (d 4), .int (nI ln), .int th, .ref (d 5), .int (nI tm8), .ref (d 6), .int (nI kp), .int (nI jj), .int 0])), ((d 1), .inl (G.2.1 0, 80, .inl s9)), ((d 4), .inl (G.2.1 0, 60, .inl t9)), ((d 5), .inl (G.2.1 0, 30, .inl li)), ((d 6), .inl (G.2.1 0, 30, .inl f9))]) [0, 1, 2, 3, 4] (by decide) rfl
        refine z_callv (wr := []) (va_runV (As := [.int 0]) (rest := []) ⟨hx, hb, hml, hown, hts⟩ (c_X6_part0 l G H.size d kn ln tm8 kp jj th hln htm8 s9 li f9 t9 hjl hj0) (cwV 1 hts gX6_go_X6_part rfl rfl rfl (by decide +kernel) ⟨(Nat.le_of_ble_eq_true rfl), (Nat.le_of_ble_eq_true rfl)⟩) (zV (ci := 6) (q0 := 0) hK hPc hDc rfl rfl) rfl rfl hl.1 rfl (lv_room (Nat.le_of_ble_eq_true rfl)) dX6_go_18 ⟨(Nat.le_of_ble_eq_true rfl), (Nat.le_of_ble_eq_true rfl)⟩) hP hD hS hA [0, 1, 2, 3, 4] [] rfl rfl (by decide) (by decide) (fun u_2 H locs hw_2 hP hD hS => ?_)
        obtain ⟨hi_2, ht_2⟩ := hw_2
        have hb_2 : u_2.1.1 ≤ ln := by rcases hi_2 with z | z; exact z.2.1; exact z.2.1
        have hP : va_P G.1 vwCl [((d 0), .inr (6, [.ref (d 1), .ref (d 2), .ref (d 3), .int (nI kn), .ref (d 4), .int (nI ln), .int th, .ref (d 5), .int (nI u_2.2.1), .ref (d 6), .int (nI kp), .int (nI u_2.1.1), .int u_2.1.2])), ((d 1), .inl (G.2.1 0, 80, .inl s9)), ((d 4), .inl (G.2.1 0, 60, .inl t9)), ((d 5), .inl (G.2.1 0, 30, .inl u_2.2.2)), ((d 6), .inl (G.2.1 0, 30, .inl f9))] H := hP
        have hD : va_D A [((d 0), .inr (6, [.ref (d 1), .ref (d 2), .ref (d 3), .int (nI kn), .ref (d 4), .int (nI ln), .int th, .ref (d 5), .int (nI u_2.2.1), .ref (d 6), .int (nI kp), .int (nI u_2.1.1), .int u_2.1.2])), ((d 1), .inl (G.2.1 0, 80, .inl s9)), ((d 4), .inl (G.2.1 0, 60, .inl t9)), ((d 5), .inl (G.2.1 0, 30, .inl u_2.2.2)), ((d 6), .inl (G.2.1 0, 30, .inl f9))] := hD
        refine lv_aload_n hx hb dX6_go_21 rfl (lv_at hl 0 rfl) ?_
        refine va_get (D := G.1) (ci := 6) (v := .int u_2.1.2) (C := RX6) (T := TX6) (N := 13) hx hb hts zi_X6_go_X6 hown hK.1 hP 0 rfl rfl 12 (by decide) (hts _ zw_X6_go_f122) (fun _ h9 => h9) rfl dX6_go_22 ?_
        refine lv_if_ne (tgt := 43) hx hb dX6_go_25 (by decide) (fun c_3 => ?_) (fun c_3 => ?_)
        · refine lv_iconst (v := 0) hx hb dX6_go_43 (by decide) ?_
          refine lv_istore_n (lv' := [(2, .int 0), (0, .ref (d 0)), (1, .int 0)]) hx hb dX6_go_44 rfl hl (by decide) rfl (fun ls hl => ?_)
          refine lv_iload_n hx hb dX6_go_45 rfl (lv_at hl 0 rfl) ?_
          refine lv_if_eq (tgt := 12) hx hb dX6_go_46 (by decide) (fun c_4 => ?_) (fun c_4 => ?_)
          · refine lv_iload_n hx hb dX6_go_12 rfl (lv_at hl 0 rfl) ?_
            refine lv_if_eq (tgt := 74) hx hb dX6_go_13 (by decide) (fun c_5 => ?_) (fun c_5 => ?_)
            · have hP9 := hP.sub (ws' := [((d 0), .inr (6, [.ref (d 1), .ref (d 2), .ref (d 3), .int (nI kn), .ref (d 4), .int (nI ln), .int th, .ref (d 5), .int (nI u_2.2.1), .ref (d 6), .int (nI kp), .int (nI u_2.1.1), .int u_2.1.2])), ((d 1), .inl (G.2.1 0, 80, .inl s9)), ((d 4), .inl (G.2.1 0, 60, .inl t9)), ((d 5), .inl (G.2.1 0, 30, .inl u_2.2.2)), ((d 6), .inl (G.2.1 0, 30, .inl f9))]) [0, 1, 2, 3, 4] rfl
              have hD9 := hD.sub (ws' := [((d 0), .inr (6, [.ref (d 1), .ref (d 2), .ref (d 3), .int (nI kn), .ref (d 4), .int (nI ln), .int th, .ref (d 5), .int (nI u_2.2.1), .ref (d 6), .int (nI kp), .int (nI u_2.1.1), .int u_2.1.2])), ((d 1), .inl (G.2.1 0, 80, .inl s9)), ((d 4), .inl (G.2.1 0, 60, .inl t9)), ((d 5), .inl (G.2.1 0, 30, .inl u_2.2.2)), ((d 6), .inl (G.2.1 0, 30, .inl f9))]) [0, 1, 2, 3, 4] (by decide) rfl
              exact z_vret hx hb hr hlocks u_2 hP9 hD9 hS (Nat.le_of_ble_eq_true rfl) (Nat.le_of_ble_eq_true rfl) dX6_go_74 ⟨Or.inr (hi_2.elim (fun z => absurd z.1 c_3) id), ht_2⟩
            · exact absurd rfl c_5
          · exact absurd rfl c_4
        · refine lv_aload_n hx hb dX6_go_28 rfl (lv_at hl 0 rfl) ?_
          refine va_get (D := G.1) (ci := 6) (v := .int (nI u_2.1.1)) (C := RX6) (T := TX6) (N := 13) hx hb hts zi_X6_go_X6 hown hK.1 hP 0 rfl rfl 11 (by decide) (hts _ zw_X6_go_f119) (fun _ h9 => h9) rfl dX6_go_29 ?_
          refine lv_aload_n hx hb dX6_go_32 rfl (lv_at hl 0 rfl) ?_
          refine va_get (D := G.1) (ci := 6) (v := .int (nI ln)) (C := RX6) (T := TX6) (N := 13) hx hb hts zi_X6_go_X6 hown hK.1 hP 0 rfl rfl 5 (by decide) (hts _ zw_X6_go_f116) (fun _ h9 => h9) rfl dX6_go_33 ?_
          refine lv_icmp_ge (tgt := 43) hx hb dX6_go_36 (by decide) (fun c_6 => ?_) (fun c_6 => ?_)
          · have hge : u_2.1.1 = ln := by have := (z_le (a := ln) (b := u_2.1.1) rfl rfl (by omega) (by omega)).mp c_6; omega
            refine lv_iconst (v := 0) hx hb dX6_go_43 (by decide) ?_
            refine lv_istore_n (lv' := [(2, .int 0), (0, .ref (d 0)), (1, .int 0)]) hx hb dX6_go_44 rfl hl (by decide) rfl (fun ls hl => ?_)
            refine lv_iload_n hx hb dX6_go_45 rfl (lv_at hl 0 rfl) ?_
            refine lv_if_eq (tgt := 12) hx hb dX6_go_46 (by decide) (fun c_7 => ?_) (fun c_7 => ?_)
            · refine lv_iload_n hx hb dX6_go_12 rfl (lv_at hl 0 rfl) ?_
              refine lv_if_eq (tgt := 74) hx hb dX6_go_13 (by decide) (fun c_8 => ?_) (fun c_8 => ?_)
              · have hP9 := hP.sub (ws' := [((d 0), .inr (6, [.ref (d 1), .ref (d 2), .ref (d 3), .int (nI kn), .ref (d 4), .int (nI ln), .int th, .ref (d 5), .int (nI u_2.2.1), .ref (d 6), .int (nI kp), .int (nI u_2.1.1), .int u_2.1.2])), ((d 1), .inl (G.2.1 0, 80, .inl s9)), ((d 4), .inl (G.2.1 0, 60, .inl t9)), ((d 5), .inl (G.2.1 0, 30, .inl u_2.2.2)), ((d 6), .inl (G.2.1 0, 30, .inl f9))]) [0, 1, 2, 3, 4] rfl
                have hD9 := hD.sub (ws' := [((d 0), .inr (6, [.ref (d 1), .ref (d 2), .ref (d 3), .int (nI kn), .ref (d 4), .int (nI ln), .int th, .ref (d 5), .int (nI u_2.2.1), .ref (d 6), .int (nI kp), .int (nI u_2.1.1), .int u_2.1.2])), ((d 1), .inl (G.2.1 0, 80, .inl s9)), ((d 4), .inl (G.2.1 0, 60, .inl t9)), ((d 5), .inl (G.2.1 0, 30, .inl u_2.2.2)), ((d 6), .inl (G.2.1 0, 30, .inl f9))]) [0, 1, 2, 3, 4] (by decide) rfl
                exact z_vret hx hb hr hlocks u_2 hP9 hD9 hS (Nat.le_of_ble_eq_true rfl) (Nat.le_of_ble_eq_true rfl) dX6_go_74 ⟨Or.inl ⟨c_3, hge, by
                  rcases hi_2 with z | z
                  · have z2 := z.2.2.2
                    rw [hge] at z2
                    exact z2.elim Or.inl (fun y => Or.inr y.1)
                  · exact absurd (z.1.symm.trans c_3) (by decide)⟩, ht_2⟩
              · exact absurd rfl c_8
            · exact absurd rfl c_7
          · have hlt : u_2.1.1 < ln := by have := mt (z_le (a := ln) (b := u_2.1.1) rfl rfl (by omega) (by omega)).mpr c_6; omega
            refine lv_iconst (v := 1) hx hb dX6_go_39 (by decide) ?_
            refine lv_goto (tgt := 44) hx hb dX6_go_40 (by decide) ?_
            refine lv_istore_n (lv' := [(2, .int 1), (0, .ref (d 0)), (1, .int 0)]) hx hb dX6_go_44 rfl hl (by decide) rfl (fun ls hl => ?_)
            refine lv_iload_n hx hb dX6_go_45 rfl (lv_at hl 0 rfl) ?_
            refine lv_if_eq (tgt := 12) hx hb dX6_go_46 (by decide) (fun c_9 => ?_) (fun c_9 => ?_)
            · exact absurd c_9 (by decide)
            · refine lv_aload_n hx hb dX6_go_49 rfl (lv_at hl 1 rfl) ?_
              refine lv_bipush (v := 59) hx hb dX6_go_50 (by decide) ?_
              refine lv_bipush (v := 59) hx hb dX6_go_52 (by decide) ?_
              have hPc := hP.sub (ws' := [((d 0), .inr (6, [.ref (d 1), .ref (d 2), .ref (d 3), .int (nI kn), .ref (d 4), .int (nI ln), .int th, .ref (d 5), .int (nI u_2.2.1), .ref (d 6), .int (nI kp), .int (nI u_2.1.1), .int u_2.1.2])), ((d 4), .inl (G.2.1 0, 60, .inl t9))]) [0, 2] rfl
              have hDc := hD.sub (ws' := [((d 0), .inr (6, [.ref (d 1), .ref (d 2), .ref (d 3), .int (nI kn), .ref (d 4), .int (nI ln), .int th, .ref (d 5), .int (nI u_2.2.1), .ref (d 6), .int (nI kp), .int (nI u_2.1.1), .int u_2.1.2])), ((d 4), .inl (G.2.1 0, 60, .inl t9))]) [0, 2] (by decide) rfl
              refine z_calli (wr := [((d 1), .inl (G.2.1 0, 80, .inl s9)), ((d 5), .inl (G.2.1 0, 30, .inl u_2.2.2)), ((d 6), .inl (G.2.1 0, 30, .inl f9))]) (va_runV (As := [.int 59, .int 59]) (rest := []) ⟨hx, hb, hml, hown, hts⟩ (c_X6_sign l G H.size d kn ln u_2.2.1 kp u_2.1.1 th u_2.1.2 hln (by omega) t9 59 59) (cwV 2 hts gX6_go_X6_sign rfl rfl rfl (by decide +kernel) ⟨(Nat.le_of_ble_eq_true rfl), (Nat.le_of_ble_eq_true rfl)⟩) (zV (ci := 6) (q0 := 0) hK hPc hDc rfl rfl) rfl rfl hl.1 rfl (lv_room (Nat.le_of_ble_eq_true rfl)) dX6_go_54 ⟨(Nat.le_of_ble_eq_true rfl), (Nat.le_of_ble_eq_true rfl)⟩) hP hD hS hA [0, 2] [1, 3, 4] rfl rfl (by decide) (by decide) (fun r_10 u_10 H locs hw_10 hP hD hS => ?_)
              obtain ⟨hv_10, hu_10⟩ := hw_10
              have hi_10 : Iv t9 ln (fun p9 => jj + 1 < p9 ∧ psT t9 p9 = 0) u_10 := by
                rw [hu_10, c_3]
                rcases hi_2 with z | z
                · exact sg_end z.2.2.1 z.2.2.2 (by omega)
                · exact absurd (z.1.symm.trans c_3) (by decide)
              have hb_10 : u_10.1 ≤ ln := by rcases hi_10 with z | z; exact z.2.1; exact z.2.1
              have hP : va_P G.1 vwCl [((d 1), .inl (G.2.1 0, 80, .inl s9)), ((d 5), .inl (G.2.1 0, 30, .inl u_2.2.2)), ((d 6), .inl (G.2.1 0, 30, .inl f9)), ((d 0), .inr (6, [.ref (d 1), .ref (d 2), .ref (d 3), .int (nI kn), .ref (d 4), .int (nI ln), .int th, .ref (d 5), .int (nI u_2.2.1), .ref (d 6), .int (nI kp), .int (nI u_10.1), .int u_10.2])), ((d 4), .inl (G.2.1 0, 60, .inl t9))] H := hP
              have hD : va_D A [((d 1), .inl (G.2.1 0, 80, .inl s9)), ((d 5), .inl (G.2.1 0, 30, .inl u_2.2.2)), ((d 6), .inl (G.2.1 0, 30, .inl f9)), ((d 0), .inr (6, [.ref (d 1), .ref (d 2), .ref (d 3), .int (nI kn), .ref (d 4), .int (nI ln), .int th, .ref (d 5), .int (nI u_2.2.1), .ref (d 6), .int (nI kp), .int (nI u_10.1), .int u_10.2])), ((d 4), .inl (G.2.1 0, 60, .inl t9))] := hD
              refine lv_istore_n (lv' := [(3, .int r_10), (2, .int 1), (0, .ref (d 0)), (1, .int 0)]) hx hb dX6_go_57 rfl hl (by decide) rfl (fun ls hl => ?_)
              refine lv_aload_n hx hb dX6_go_58 rfl (lv_at hl 2 rfl) ?_
              refine va_get (D := G.1) (ci := 6) (v := .int u_10.2) (C := RX6) (T := TX6) (N := 13) hx hb hts zi_X6_go_X6 hown hK.1 hP 3 rfl rfl 12 (by decide) (hts _ zw_X6_go_f122) (fun _ h9 => h9) rfl dX6_go_59 ?_
              refine lv_if_ne (tgt := 69) hx hb dX6_go_62 (by decide) (fun c_11 => ?_) (fun c_11 => ?_)
              · refine lv_iconst (v := 0) hx hb dX6_go_69 (by decide) ?_
                refine lv_istore_n (lv' := [(2, .int 0), (3, .int r_10), (0, .ref (d 0)), (1, .int 0)]) hx hb dX6_go_70 rfl hl (by decide) rfl (fun ls hl => ?_)
                refine lv_goto (tgt := 12) hx hb dX6_go_71 (by decide) ?_
                refine lv_iload_n hx hb dX6_go_12 rfl (lv_at hl 0 rfl) ?_
                refine lv_if_eq (tgt := 74) hx hb dX6_go_13 (by decide) (fun c_12 => ?_) (fun c_12 => ?_)
                · have hP9 := hP.sub (ws' := [((d 0), .inr (6, [.ref (d 1), .ref (d 2), .ref (d 3), .int (nI kn), .ref (d 4), .int (nI ln), .int th, .ref (d 5), .int (nI u_2.2.1), .ref (d 6), .int (nI kp), .int (nI u_10.1), .int u_10.2])), ((d 1), .inl (G.2.1 0, 80, .inl s9)), ((d 4), .inl (G.2.1 0, 60, .inl t9)), ((d 5), .inl (G.2.1 0, 30, .inl u_2.2.2)), ((d 6), .inl (G.2.1 0, 30, .inl f9))]) [3, 0, 4, 1, 2] rfl
                  have hD9 := hD.sub (ws' := [((d 0), .inr (6, [.ref (d 1), .ref (d 2), .ref (d 3), .int (nI kn), .ref (d 4), .int (nI ln), .int th, .ref (d 5), .int (nI u_2.2.1), .ref (d 6), .int (nI kp), .int (nI u_10.1), .int u_10.2])), ((d 1), .inl (G.2.1 0, 80, .inl s9)), ((d 4), .inl (G.2.1 0, 60, .inl t9)), ((d 5), .inl (G.2.1 0, 30, .inl u_2.2.2)), ((d 6), .inl (G.2.1 0, 30, .inl f9))]) [3, 0, 4, 1, 2] (by decide) rfl
                  exact z_vret hx hb hr hlocks (u_10, u_2.2) hP9 hD9 hS (Nat.le_of_ble_eq_true rfl) (Nat.le_of_ble_eq_true rfl) dX6_go_74 ⟨Or.inr (hi_10.elim (fun z => absurd z.1 c_11) id), ht_2⟩
                · exact absurd rfl c_12
              · have hz_10 : psT t9 u_10.1 = 0 := by rcases hi_10 with z | z; exact z.2.2.2; exact absurd (z.1.symm.trans c_11) (by decide)
                have hj_10 : jj + 1 < u_10.1 := by rcases hi_10 with z | z; exact z.2.2.1; exact absurd (z.1.symm.trans c_11) (by decide)
                rw [c_11] at hP hD
                refine lv_iconst (v := 1) hx hb dX6_go_65 (by decide) ?_
                refine lv_goto (tgt := 70) hx hb dX6_go_66 (by decide) ?_
                refine lv_istore_n (lv' := [(2, .int 1), (3, .int r_10), (0, .ref (d 0)), (1, .int 0)]) hx hb dX6_go_70 rfl hl (by decide) rfl (fun ls hl => ?_)
                refine lv_goto (tgt := 12) hx hb dX6_go_71 (by decide) ?_
                exact ih u_10.1 u_2.2.1 u_2.2.2 (by omega) hb_10 hz_10 ht_2 _ _ _ (hP.sub [3, 0, 4, 1, 2] rfl) (hD.sub [3, 0, 4, 1, 2] (by decide) rfl) hS (lv_sub hl [2, 3, 0] rfl)
  exact loop _ 0 tm l9 (Nat.lt_succ_self _) (Nat.zero_le _) rfl htm _ _ _ (hP.sub [0, 1, 2, 3, 4] rfl) (hD.sub [0, 1, 2, 3, 4] (by decide) rfl) hS (lv_sub hl [1, 2, 0] rfl)
theorem zw_X6_firstError_f28 : Cond.fieldLink RX6 28 "LightReceiverModel" "thrown" "I" ∈ wsX6_firstError := by decide +kernel
theorem zi_X6_firstError_X6 : ∀ w ∈ wsX60, w ∈ wsX6_firstError := fun _ h => List.mem_cons_of_mem _ (List.mem_append_right _ h)
theorem zw_X6_firstError_f122 : Cond.fieldLink RX6 122 "LightReceiverModel" "isWrong" "Z" ∈ wsX6_firstError := by decide +kernel
theorem zw_X6_firstError_f116 : Cond.fieldLink RX6 116 "LightReceiverModel" "length" "I" ∈ wsX6_firstError := by decide +kernel
theorem zw_X6_firstError_f119 : Cond.fieldLink RX6 119 "LightReceiverModel" "place" "I" ∈ wsX6_firstError := by decide +kernel
set_option maxHeartbeats 1000000 in
set_option maxRecDepth 100000 in
theorem c_X6_firstError (l : Launch) (G : zG) (sz : Nat) (d : Nat → Nat) (kn ln tm kp pl : Nat) (th wr : Int32) (hln : ln ≤ 60) (htm : True) (s9 l9 f9 t9 : zF)  : zMi l yX6_firstError wsX6_firstError ({ frames := 4, cells := 0, slots := 0, locals := 93 } : Room) [.ref (d 0)] G [((d 0), .inr (6, [.ref (d 1), .ref (d 2), .ref (d 3), .int (nI kn), .ref (d 4), .int (nI ln), .int th, .ref (d 5), .int (nI tm), .ref (d 6), .int (nI kp), .int (nI pl), .int wr])), ((d 1), .inl (G.2.1 0, 80, .inl s9)), ((d 4), .inl (G.2.1 0, 60, .inl t9)), ((d 5), .inl (G.2.1 0, 30, .inl l9)), ((d 6), .inl (G.2.1 0, 30, .inl f9))] (fun (v : Int32) (u : Nat × ((Nat × Int32) × Nat × zF)) => v = nI u.1 ∧ feP t9 ln u.1 ∧ True) (fun u => [((d 0), .inr (6, [.ref (d 1), .ref (d 2), .ref (d 3), .int (nI kn), .ref (d 4), .int (nI ln), .int 0, .ref (d 5), .int (nI u.2.2.1), .ref (d 6), .int (nI kp), .int (nI u.2.1.1), .int u.2.1.2])), ((d 1), .inl (G.2.1 0, 80, .inl s9)), ((d 4), .inl (G.2.1 0, 60, .inl t9)), ((d 5), .inl (G.2.1 0, 30, .inl u.2.2.2)), ((d 6), .inl (G.2.1 0, 30, .inl f9))]) sz 0 0 := by
  refine zMi_of (cc := cX6_firstError) (maxL := 1) (ret := (some .int)) (by decide) rfl (Nat.le_of_ble_eq_true rfl) ?_
  intro p e s m args below meth c A ls hx hb hr hml hts hown hlocks hnm hK hP hD hAe hS hA hl hsz
  have hown : s.vm.findClass RX6 = some m.cls := hown
  have hP : va_P G.1 vwCl [((d 0), .inr (6, [.ref (d 1), .ref (d 2), .ref (d 3), .int (nI kn), .ref (d 4), .int (nI ln), .int th, .ref (d 5), .int (nI tm), .ref (d 6), .int (nI kp), .int (nI pl), .int wr])), ((d 1), .inl (G.2.1 0, 80, .inl s9)), ((d 4), .inl (G.2.1 0, 60, .inl t9)), ((d 5), .inl (G.2.1 0, 30, .inl l9)), ((d 6), .inl (G.2.1 0, 30, .inl f9))] s.heap := hP
  have hD : va_D A [((d 0), .inr (6, [.ref (d 1), .ref (d 2), .ref (d 3), .int (nI kn), .ref (d 4), .int (nI ln), .int th, .ref (d 5), .int (nI tm), .ref (d 6), .int (nI kp), .int (nI pl), .int wr])), ((d 1), .inl (G.2.1 0, 80, .inl s9)), ((d 4), .inl (G.2.1 0, 60, .inl t9)), ((d 5), .inl (G.2.1 0, 30, .inl l9)), ((d 6), .inl (G.2.1 0, 30, .inl f9))] := hD
  have hl : lv_has ls 1 [(0, .ref (d 0))] := hl
  refine lv_aload_n hx hb dX6_firstError_0 rfl (lv_at hl 0 rfl) ?_
  refine lv_iconst (v := 0) hx hb dX6_firstError_1 (by decide) ?_
  refine va_put (D := G.1) (ci := 6) (v := .int 0) (ty := .int) (C := RX6) (T := TX6) (N := 13) hx hb hts zi_X6_firstError_X6 tyX6 tyX6_ok nmX6 hown hK.1 hP hD hS 0 rfl rfl 6 (by decide) (hts _ zw_X6_firstError_f28) (fun _ h9 => h9) rfl (by decide +kernel) rfl rfl (Nat.le_of_ble_eq_true rfl) dX6_firstError_2 (fun H locs hP hD hS => ?_)
  have hP : va_P G.1 vwCl [((d 0), .inr (6, [.ref (d 1), .ref (d 2), .ref (d 3), .int (nI kn), .ref (d 4), .int (nI ln), .int 0, .ref (d 5), .int (nI tm), .ref (d 6), .int (nI kp), .int (nI pl), .int wr])), ((d 1), .inl (G.2.1 0, 80, .inl s9)), ((d 4), .inl (G.2.1 0, 60, .inl t9)), ((d 5), .inl (G.2.1 0, 30, .inl l9)), ((d 6), .inl (G.2.1 0, 30, .inl f9))] H := hP
  have hD : va_D A [((d 0), .inr (6, [.ref (d 1), .ref (d 2), .ref (d 3), .int (nI kn), .ref (d 4), .int (nI ln), .int 0, .ref (d 5), .int (nI tm), .ref (d 6), .int (nI kp), .int (nI pl), .int wr])), ((d 1), .inl (G.2.1 0, 80, .inl s9)), ((d 4), .inl (G.2.1 0, 60, .inl t9)), ((d 5), .inl (G.2.1 0, 30, .inl l9)), ((d 6), .inl (G.2.1 0, 30, .inl f9))] := hD
  refine lv_aload_n hx hb dX6_firstError_5 rfl (lv_at hl 0 rfl) ?_
  refine lv_iconst (v := 0) hx hb dX6_firstError_6 (by decide) ?_
  have hPc := hP.sub (ws' := [((d 0), .inr (6, [.ref (d 1), .ref (d 2), .ref (d 3), .int (nI kn), .ref (d 4), .int (nI ln), .int 0, .ref (d 5), .int (nI tm), .ref (d 6), .int (nI kp), .int (nI pl), .int wr])), ((d 1), .inl (G.2.1 0, 80, .inl s9)), ((d 4), .inl (G.2.1 0, 60, .inl t9)), ((d 5), .inl (G.2.1 0, 30, .inl l9)), ((d 6), .inl (G.2.1 0, 30, .inl f9))]) [0, 1, 2, 3, 4] rfl
  have hDc := hD.sub (ws' := [((d 0), .inr (6, [.ref (d 1), .ref (d 2), .ref (d 3), .int (nI kn), .ref (d 4), .int (nI ln), .int 0, .ref (d 5), .int (nI tm), .ref (d 6), .int (nI kp), .int (nI pl), .int wr])), ((d 1), .inl (G.2.1 0, 80, .inl s9)), ((d 4), .inl (G.2.1 0, 60, .inl t9)), ((d 5), .inl (G.2.1 0, 30, .inl l9)), ((d 6), .inl (G.2.1 0, 30, .inl f9))]) [0, 1, 2, 3, 4] (by decide) rfl
  refine z_callv (wr := []) (va_runV (As := [.int 0]) (rest := []) ⟨hx, hb, hml, hown, hts⟩ (c_X6_go0 l G H.size d kn ln tm kp pl 0 wr hln htm s9 l9 f9 t9) (cwV 1 hts gX6_firstError_X6_go rfl rfl rfl (by decide +kernel) ⟨(Nat.le_of_ble_eq_true rfl), (Nat.le_of_ble_eq_true rfl)⟩) (zV (ci := 6) (q0 := 0) hK hPc hDc rfl rfl) rfl rfl hl.1 rfl (lv_room (Nat.le_of_ble_eq_true rfl)) dX6_firstError_7 ⟨(Nat.le_of_ble_eq_true rfl), (Nat.le_of_ble_eq_true rfl)⟩) hP hD hS hA [0, 1, 2, 3, 4] [] rfl rfl (by decide) (by decide) (fun u_1 H locs hw_1 hP hD hS => ?_)
  have hP : va_P G.1 vwCl [((d 0), .inr (6, [.ref (d 1), .ref (d 2), .ref (d 3), .int (nI kn), .ref (d 4), .int (nI ln), .int 0, .ref (d 5), .int (nI u_1.2.1), .ref (d 6), .int (nI kp), .int (nI u_1.1.1), .int u_1.1.2])), ((d 1), .inl (G.2.1 0, 80, .inl s9)), ((d 4), .inl (G.2.1 0, 60, .inl t9)), ((d 5), .inl (G.2.1 0, 30, .inl u_1.2.2)), ((d 6), .inl (G.2.1 0, 30, .inl f9))] H := hP
  have hD : va_D A [((d 0), .inr (6, [.ref (d 1), .ref (d 2), .ref (d 3), .int (nI kn), .ref (d 4), .int (nI ln), .int 0, .ref (d 5), .int (nI u_1.2.1), .ref (d 6), .int (nI kp), .int (nI u_1.1.1), .int u_1.1.2])), ((d 1), .inl (G.2.1 0, 80, .inl s9)), ((d 4), .inl (G.2.1 0, 60, .inl t9)), ((d 5), .inl (G.2.1 0, 30, .inl u_1.2.2)), ((d 6), .inl (G.2.1 0, 30, .inl f9))] := hD
  refine lv_aload_n hx hb dX6_firstError_10 rfl (lv_at hl 0 rfl) ?_
  refine va_get (D := G.1) (ci := 6) (v := .int u_1.1.2) (C := RX6) (T := TX6) (N := 13) hx hb hts zi_X6_firstError_X6 hown hK.1 hP 0 rfl rfl 12 (by decide) (hts _ zw_X6_firstError_f122) (fun _ h9 => h9) rfl dX6_firstError_11 ?_
  refine lv_if_eq (tgt := 24) hx hb dX6_firstError_14 (by decide) (fun c_2 => ?_) (fun c_2 => ?_)
  · refine lv_aload_n hx hb dX6_firstError_24 rfl (lv_at hl 0 rfl) ?_
    refine va_get (D := G.1) (ci := 6) (v := .int (nI ln)) (C := RX6) (T := TX6) (N := 13) hx hb hts zi_X6_firstError_X6 hown hK.1 hP 0 rfl rfl 5 (by decide) (hts _ zw_X6_firstError_f116) (fun _ h9 => h9) rfl dX6_firstError_25 ?_
    have hP9 := hP.sub (ws' := [((d 0), .inr (6, [.ref (d 1), .ref (d 2), .ref (d 3), .int (nI kn), .ref (d 4), .int (nI ln), .int 0, .ref (d 5), .int (nI u_1.2.1), .ref (d 6), .int (nI kp), .int (nI u_1.1.1), .int u_1.1.2])), ((d 1), .inl (G.2.1 0, 80, .inl s9)), ((d 4), .inl (G.2.1 0, 60, .inl t9)), ((d 5), .inl (G.2.1 0, 30, .inl u_1.2.2)), ((d 6), .inl (G.2.1 0, 30, .inl f9))]) [0, 1, 2, 3, 4] rfl
    have hD9 := hD.sub (ws' := [((d 0), .inr (6, [.ref (d 1), .ref (d 2), .ref (d 3), .int (nI kn), .ref (d 4), .int (nI ln), .int 0, .ref (d 5), .int (nI u_1.2.1), .ref (d 6), .int (nI kp), .int (nI u_1.1.1), .int u_1.1.2])), ((d 1), .inl (G.2.1 0, 80, .inl s9)), ((d 4), .inl (G.2.1 0, 60, .inl t9)), ((d 5), .inl (G.2.1 0, 30, .inl u_1.2.2)), ((d 6), .inl (G.2.1 0, 30, .inl f9))]) [0, 1, 2, 3, 4] (by decide) rfl
    exact z_iret hx hb hr rfl hlocks (ln, u_1) hP9 hD9 hS (Nat.le_of_ble_eq_true rfl) (Nat.le_of_ble_eq_true rfl) dX6_firstError_28 ⟨rfl, ((gE_fe hw_1.1).2 c_2).1, hw_1.2⟩
  · refine lv_aload_n hx hb dX6_firstError_17 rfl (lv_at hl 0 rfl) ?_
    refine va_get (D := G.1) (ci := 6) (v := .int (nI u_1.1.1)) (C := RX6) (T := TX6) (N := 13) hx hb hts zi_X6_firstError_X6 hown hK.1 hP 0 rfl rfl 11 (by decide) (hts _ zw_X6_firstError_f119) (fun _ h9 => h9) rfl dX6_firstError_18 ?_
    refine lv_goto (tgt := 28) hx hb dX6_firstError_21 (by decide) ?_
    have hP9 := hP.sub (ws' := [((d 0), .inr (6, [.ref (d 1), .ref (d 2), .ref (d 3), .int (nI kn), .ref (d 4), .int (nI ln), .int 0, .ref (d 5), .int (nI u_1.2.1), .ref (d 6), .int (nI kp), .int (nI u_1.1.1), .int u_1.1.2])), ((d 1), .inl (G.2.1 0, 80, .inl s9)), ((d 4), .inl (G.2.1 0, 60, .inl t9)), ((d 5), .inl (G.2.1 0, 30, .inl u_1.2.2)), ((d 6), .inl (G.2.1 0, 30, .inl f9))]) [0, 1, 2, 3, 4] rfl
    have hD9 := hD.sub (ws' := [((d 0), .inr (6, [.ref (d 1), .ref (d 2), .ref (d 3), .int (nI kn), .ref (d 4), .int (nI ln), .int 0, .ref (d 5), .int (nI u_1.2.1), .ref (d 6), .int (nI kp), .int (nI u_1.1.1), .int u_1.1.2])), ((d 1), .inl (G.2.1 0, 80, .inl s9)), ((d 4), .inl (G.2.1 0, 60, .inl t9)), ((d 5), .inl (G.2.1 0, 30, .inl u_1.2.2)), ((d 6), .inl (G.2.1 0, 30, .inl f9))]) [0, 1, 2, 3, 4] (by decide) rfl
    exact z_iret hx hb hr rfl hlocks (u_1.1.1, u_1) hP9 hD9 hS (Nat.le_of_ble_eq_true rfl) (Nat.le_of_ble_eq_true rfl) dX6_firstError_28 ⟨rfl, (gE_fe hw_1.1).1 c_2, hw_1.2⟩
theorem zw_X6_run_f28 : Cond.fieldLink RX6 28 "LightReceiverModel" "thrown" "I" ∈ wsX6_run := by decide +kernel
theorem zi_X6_run_X6 : ∀ w ∈ wsX60, w ∈ wsX6_run := fun _ h => List.mem_cons_of_mem _ (List.mem_append_right _ h)
theorem zw_X6_run_f122 : Cond.fieldLink RX6 122 "LightReceiverModel" "isWrong" "Z" ∈ wsX6_run := by decide +kernel
set_option maxHeartbeats 1000000 in
set_option maxRecDepth 100000 in
theorem c_X6_run_bad (l : Launch) (G : zG) (sz : Nat) (d : Nat → Nat) (kn ln tm kp pl : Nat) (th wr : Int32) (hln : ln ≤ 60) (htm : True) (s9 l9 f9 t9 : zF) (hcm : ¬ cmT t9 ln)  : zMi l yX6_run wsX6_run ({ frames := 4, cells := 0, slots := 0, locals := 93 } : Room) [.ref (d 0)] G [((d 0), .inr (6, [.ref (d 1), .ref (d 2), .ref (d 3), .int (nI kn), .ref (d 4), .int (nI ln), .int th, .ref (d 5), .int (nI tm), .ref (d 6), .int (nI kp), .int (nI pl), .int wr])), ((d 1), .inl (G.2.1 0, 80, .inl s9)), ((d 4), .inl (G.2.1 0, 60, .inl t9)), ((d 5), .inl (G.2.1 0, 30, .inl l9)), ((d 6), .inl (G.2.1 0, 30, .inl f9))] (fun (v : Int32) (u : (Nat × Int32) × Nat × zF) => v = 0 ∧ True) (fun u => [((d 0), .inr (6, [.ref (d 1), .ref (d 2), .ref (d 3), .int (nI kn), .ref (d 4), .int (nI ln), .int 1, .ref (d 5), .int (nI u.2.1), .ref (d 6), .int (nI kp), .int (nI u.1.1), .int u.1.2])), ((d 1), .inl (G.2.1 0, 80, .inl s9)), ((d 4), .inl (G.2.1 0, 60, .inl t9)), ((d 5), .inl (G.2.1 0, 30, .inl u.2.2)), ((d 6), .inl (G.2.1 0, 30, .inl f9))]) sz 0 0 := by
  refine zMi_of (cc := cX6_run) (maxL := 2) (ret := (some .int)) (by decide) rfl (Nat.le_of_ble_eq_true rfl) ?_
  intro p e s m args below meth c A ls hx hb hr hml hts hown hlocks hnm hK hP hD hAe hS hA hl hsz
  have hown : s.vm.findClass RX6 = some m.cls := hown
  have hP : va_P G.1 vwCl [((d 0), .inr (6, [.ref (d 1), .ref (d 2), .ref (d 3), .int (nI kn), .ref (d 4), .int (nI ln), .int th, .ref (d 5), .int (nI tm), .ref (d 6), .int (nI kp), .int (nI pl), .int wr])), ((d 1), .inl (G.2.1 0, 80, .inl s9)), ((d 4), .inl (G.2.1 0, 60, .inl t9)), ((d 5), .inl (G.2.1 0, 30, .inl l9)), ((d 6), .inl (G.2.1 0, 30, .inl f9))] s.heap := hP
  have hD : va_D A [((d 0), .inr (6, [.ref (d 1), .ref (d 2), .ref (d 3), .int (nI kn), .ref (d 4), .int (nI ln), .int th, .ref (d 5), .int (nI tm), .ref (d 6), .int (nI kp), .int (nI pl), .int wr])), ((d 1), .inl (G.2.1 0, 80, .inl s9)), ((d 4), .inl (G.2.1 0, 60, .inl t9)), ((d 5), .inl (G.2.1 0, 30, .inl l9)), ((d 6), .inl (G.2.1 0, 30, .inl f9))] := hD
  have hl : lv_has ls 2 [(0, .ref (d 0))] := hl
  refine lv_aload_n hx hb dX6_run_0 rfl (lv_at hl 0 rfl) ?_
  refine lv_iconst (v := 0) hx hb dX6_run_1 (by decide) ?_
  refine va_put (D := G.1) (ci := 6) (v := .int 0) (ty := .int) (C := RX6) (T := TX6) (N := 13) hx hb hts zi_X6_run_X6 tyX6 tyX6_ok nmX6 hown hK.1 hP hD hS 0 rfl rfl 6 (by decide) (hts _ zw_X6_run_f28) (fun _ h9 => h9) rfl (by decide +kernel) rfl rfl (Nat.le_of_ble_eq_true rfl) dX6_run_2 (fun H locs hP hD hS => ?_)
  have hP : va_P G.1 vwCl [((d 0), .inr (6, [.ref (d 1), .ref (d 2), .ref (d 3), .int (nI kn), .ref (d 4), .int (nI ln), .int 0, .ref (d 5), .int (nI tm), .ref (d 6), .int (nI kp), .int (nI pl), .int wr])), ((d 1), .inl (G.2.1 0, 80, .inl s9)), ((d 4), .inl (G.2.1 0, 60, .inl t9)), ((d 5), .inl (G.2.1 0, 30, .inl l9)), ((d 6), .inl (G.2.1 0, 30, .inl f9))] H := hP
  have hD : va_D A [((d 0), .inr (6, [.ref (d 1), .ref (d 2), .ref (d 3), .int (nI kn), .ref (d 4), .int (nI ln), .int 0, .ref (d 5), .int (nI tm), .ref (d 6), .int (nI kp), .int (nI pl), .int wr])), ((d 1), .inl (G.2.1 0, 80, .inl s9)), ((d 4), .inl (G.2.1 0, 60, .inl t9)), ((d 5), .inl (G.2.1 0, 30, .inl l9)), ((d 6), .inl (G.2.1 0, 30, .inl f9))] := hD
  refine lv_aload_n hx hb dX6_run_5 rfl (lv_at hl 0 rfl) ?_
  refine lv_iconst (v := 0) hx hb dX6_run_6 (by decide) ?_
  have hPc := hP.sub (ws' := [((d 0), .inr (6, [.ref (d 1), .ref (d 2), .ref (d 3), .int (nI kn), .ref (d 4), .int (nI ln), .int 0, .ref (d 5), .int (nI tm), .ref (d 6), .int (nI kp), .int (nI pl), .int wr])), ((d 1), .inl (G.2.1 0, 80, .inl s9)), ((d 4), .inl (G.2.1 0, 60, .inl t9)), ((d 5), .inl (G.2.1 0, 30, .inl l9)), ((d 6), .inl (G.2.1 0, 30, .inl f9))]) [0, 1, 2, 3, 4] rfl
  have hDc := hD.sub (ws' := [((d 0), .inr (6, [.ref (d 1), .ref (d 2), .ref (d 3), .int (nI kn), .ref (d 4), .int (nI ln), .int 0, .ref (d 5), .int (nI tm), .ref (d 6), .int (nI kp), .int (nI pl), .int wr])), ((d 1), .inl (G.2.1 0, 80, .inl s9)), ((d 4), .inl (G.2.1 0, 60, .inl t9)), ((d 5), .inl (G.2.1 0, 30, .inl l9)), ((d 6), .inl (G.2.1 0, 30, .inl f9))]) [0, 1, 2, 3, 4] (by decide) rfl
  refine z_callv (wr := []) (va_runV (As := [.int 0]) (rest := []) ⟨hx, hb, hml, hown, hts⟩ (c_X6_go0 l G H.size d kn ln tm kp pl 0 wr hln htm s9 l9 f9 t9) (cwV 1 hts gX6_run_X6_go rfl rfl rfl (by decide +kernel) ⟨(Nat.le_of_ble_eq_true rfl), (Nat.le_of_ble_eq_true rfl)⟩) (zV (ci := 6) (q0 := 0) hK hPc hDc rfl rfl) rfl rfl hl.1 rfl (lv_room (Nat.le_of_ble_eq_true rfl)) dX6_run_7 ⟨(Nat.le_of_ble_eq_true rfl), (Nat.le_of_ble_eq_true rfl)⟩) hP hD hS hA [0, 1, 2, 3, 4] [] rfl rfl (by decide) (by decide) (fun u_1 H locs hw_1 hP hD hS => ?_)
  have hP : va_P G.1 vwCl [((d 0), .inr (6, [.ref (d 1), .ref (d 2), .ref (d 3), .int (nI kn), .ref (d 4), .int (nI ln), .int 0, .ref (d 5), .int (nI u_1.2.1), .ref (d 6), .int (nI kp), .int (nI u_1.1.1), .int u_1.1.2])), ((d 1), .inl (G.2.1 0, 80, .inl s9)), ((d 4), .inl (G.2.1 0, 60, .inl t9)), ((d 5), .inl (G.2.1 0, 30, .inl u_1.2.2)), ((d 6), .inl (G.2.1 0, 30, .inl f9))] H := hP
  have hD : va_D A [((d 0), .inr (6, [.ref (d 1), .ref (d 2), .ref (d 3), .int (nI kn), .ref (d 4), .int (nI ln), .int 0, .ref (d 5), .int (nI u_1.2.1), .ref (d 6), .int (nI kp), .int (nI u_1.1.1), .int u_1.1.2])), ((d 1), .inl (G.2.1 0, 80, .inl s9)), ((d 4), .inl (G.2.1 0, 60, .inl t9)), ((d 5), .inl (G.2.1 0, 30, .inl u_1.2.2)), ((d 6), .inl (G.2.1 0, 30, .inl f9))] := hD
  refine lv_aload_n hx hb dX6_run_10 rfl (lv_at hl 0 rfl) ?_
  refine va_get (D := G.1) (ci := 6) (v := .int u_1.1.2) (C := RX6) (T := TX6) (N := 13) hx hb hts zi_X6_run_X6 hown hK.1 hP 0 rfl rfl 12 (by decide) (hts _ zw_X6_run_f122) (fun _ h9 => h9) rfl dX6_run_11 ?_
  refine lv_if_eq (tgt := 23) hx hb dX6_run_14 (by decide) (fun c_2 => ?_) (fun c_2 => ?_)
  · exact absurd c_2 (gE_no hw_1.1 hcm)
  · refine lv_aload_n hx hb dX6_run_17 rfl (lv_at hl 0 rfl) ?_
    refine lv_iconst (v := 1) hx hb dX6_run_18 (by decide) ?_
    have hPc := hP.sub (ws' := [((d 0), .inr (6, [.ref (d 1), .ref (d 2), .ref (d 3), .int (nI kn), .ref (d 4), .int (nI ln), .int 0, .ref (d 5), .int (nI u_1.2.1), .ref (d 6), .int (nI kp), .int (nI u_1.1.1), .int u_1.1.2]))]) [0] rfl
    have hDc := hD.sub (ws' := [((d 0), .inr (6, [.ref (d 1), .ref (d 2), .ref (d 3), .int (nI kn), .ref (d 4), .int (nI ln), .int 0, .ref (d 5), .int (nI u_1.2.1), .ref (d 6), .int (nI kp), .int (nI u_1.1.1), .int u_1.1.2]))]) [0] (by decide) rfl
    refine z_calli (wr := [((d 1), .inl (G.2.1 0, 80, .inl s9)), ((d 4), .inl (G.2.1 0, 60, .inl t9)), ((d 5), .inl (G.2.1 0, 30, .inl u_1.2.2)), ((d 6), .inl (G.2.1 0, 30, .inl f9))]) (va_runV (As := [.int 1]) (rest := []) ⟨hx, hb, hml, hown, hts⟩ (c_X6_throwing l G H.size d kn ln u_1.2.1 kp u_1.1.1 0 u_1.1.2 1) (cwV 1 hts gX6_run_X6_throwing rfl rfl rfl (by decide +kernel) ⟨(Nat.le_of_ble_eq_true rfl), (Nat.le_of_ble_eq_true rfl)⟩) (zV (ci := 6) (q0 := 0) hK hPc hDc rfl rfl) rfl rfl hl.1 rfl (lv_room (Nat.le_of_ble_eq_true rfl)) dX6_run_19 ⟨(Nat.le_of_ble_eq_true rfl), (Nat.le_of_ble_eq_true rfl)⟩) hP hD hS hA [0] [1, 2, 3, 4] rfl rfl (by decide) (by decide) (fun r_3 u_3 H locs hw_3 hP hD hS => ?_)
    subst hw_3
    have hP : va_P G.1 vwCl [((d 1), .inl (G.2.1 0, 80, .inl s9)), ((d 4), .inl (G.2.1 0, 60, .inl t9)), ((d 5), .inl (G.2.1 0, 30, .inl u_1.2.2)), ((d 6), .inl (G.2.1 0, 30, .inl f9)), ((d 0), .inr (6, [.ref (d 1), .ref (d 2), .ref (d 3), .int (nI kn), .ref (d 4), .int (nI ln), .int 1, .ref (d 5), .int (nI u_1.2.1), .ref (d 6), .int (nI kp), .int (nI u_1.1.1), .int u_1.1.2]))] H := hP
    have hD : va_D A [((d 1), .inl (G.2.1 0, 80, .inl s9)), ((d 4), .inl (G.2.1 0, 60, .inl t9)), ((d 5), .inl (G.2.1 0, 30, .inl u_1.2.2)), ((d 6), .inl (G.2.1 0, 30, .inl f9)), ((d 0), .inr (6, [.ref (d 1), .ref (d 2), .ref (d 3), .int (nI kn), .ref (d 4), .int (nI ln), .int 1, .ref (d 5), .int (nI u_1.2.1), .ref (d 6), .int (nI kp), .int (nI u_1.1.1), .int u_1.1.2]))] := hD
    have hP9 := hP.sub (ws' := [((d 0), .inr (6, [.ref (d 1), .ref (d 2), .ref (d 3), .int (nI kn), .ref (d 4), .int (nI ln), .int 1, .ref (d 5), .int (nI u_1.2.1), .ref (d 6), .int (nI kp), .int (nI u_1.1.1), .int u_1.1.2])), ((d 1), .inl (G.2.1 0, 80, .inl s9)), ((d 4), .inl (G.2.1 0, 60, .inl t9)), ((d 5), .inl (G.2.1 0, 30, .inl u_1.2.2)), ((d 6), .inl (G.2.1 0, 30, .inl f9))]) [4, 0, 1, 2, 3] rfl
    have hD9 := hD.sub (ws' := [((d 0), .inr (6, [.ref (d 1), .ref (d 2), .ref (d 3), .int (nI kn), .ref (d 4), .int (nI ln), .int 1, .ref (d 5), .int (nI u_1.2.1), .ref (d 6), .int (nI kp), .int (nI u_1.1.1), .int u_1.1.2])), ((d 1), .inl (G.2.1 0, 80, .inl s9)), ((d 4), .inl (G.2.1 0, 60, .inl t9)), ((d 5), .inl (G.2.1 0, 30, .inl u_1.2.2)), ((d 6), .inl (G.2.1 0, 30, .inl f9))]) [4, 0, 1, 2, 3] (by decide) rfl
    exact z_iret hx hb hr rfl hlocks u_1 hP9 hD9 hS (Nat.le_of_ble_eq_true rfl) (Nat.le_of_ble_eq_true rfl) dX6_run_22 ⟨rfl, hw_1.2⟩
end
