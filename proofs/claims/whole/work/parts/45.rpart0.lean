section
theorem zw_X6_part_f7 : Cond.fieldLink RX6 7 "LightReceiverModel" "s" "[I" ∈ wsX6_part := by decide +kernel
theorem zi_X6_part_X6 : ∀ w ∈ wsX60, w ∈ wsX6_part := fun _ h => List.mem_cons_of_mem _ (List.mem_append_right _ h)
theorem zw_X6_part_f119 : Cond.fieldLink RX6 119 "LightReceiverModel" "place" "I" ∈ wsX6_part := by decide +kernel
theorem zw_X6_part_f19 : Cond.fieldLink RX6 19 "LightReceiverModel" "text" "[I" ∈ wsX6_part := by decide +kernel
set_option maxHeartbeats 4000000 in
set_option maxRecDepth 100000 in
theorem c_X6_part0 (l : Launch) (G : zG) (sz : Nat) (d : Nat → Nat) (kn ln tm kp jj : Nat) (th : Int32) (hln : ln ≤ 60) (htm : True) (s9 l9 f9 t9 : zF) (hjl : jj ≤ ln) (hj0 : psT t9 jj = 0)  : zMv l yX6_part wsX6_part ({ frames := 2, cells := 0, slots := 0, locals := 45 } : Room) [.ref (d 0), .int 0] G [((d 0), .inr (6, [.ref (d 1), .ref (d 2), .ref (d 3), .int (nI kn), .ref (d 4), .int (nI ln), .int th, .ref (d 5), .int (nI tm), .ref (d 6), .int (nI kp), .int (nI jj), .int 0])), ((d 1), .inl (G.2.1 0, 80, .inl s9)), ((d 4), .inl (G.2.1 0, 60, .inl t9)), ((d 5), .inl (G.2.1 0, 30, .inl l9)), ((d 6), .inl (G.2.1 0, 30, .inl f9))] (fun (u : (Nat × Int32) × Nat × zF) => Iv t9 ln (fun p9 => jj < p9 ∧ peE t9 ln p9) u.1 ∧ True) (fun u => [((d 0), .inr (6, [.ref (d 1), .ref (d 2), .ref (d 3), .int (nI kn), .ref (d 4), .int (nI ln), .int th, .ref (d 5), .int (nI u.2.1), .ref (d 6), .int (nI kp), .int (nI u.1.1), .int u.1.2])), ((d 1), .inl (G.2.1 0, 80, .inl s9)), ((d 4), .inl (G.2.1 0, 60, .inl t9)), ((d 5), .inl (G.2.1 0, 30, .inl u.2.2)), ((d 6), .inl (G.2.1 0, 30, .inl f9))]) sz 0 0 := by
  refine zMv_of (cc := cX6_part) (maxL := 6) (ret := none) (by decide) rfl (Nat.le_of_ble_eq_true rfl) ?_
  intro p e s m args below meth c A ls hx hb hr hml hts hown hlocks hnm hK hP hD hAe hS hA hl hsz
  have hown : s.vm.findClass RX6 = some m.cls := hown
  have hP : va_P G.1 vwCl [((d 0), .inr (6, [.ref (d 1), .ref (d 2), .ref (d 3), .int (nI kn), .ref (d 4), .int (nI ln), .int th, .ref (d 5), .int (nI tm), .ref (d 6), .int (nI kp), .int (nI jj), .int 0])), ((d 1), .inl (G.2.1 0, 80, .inl s9)), ((d 4), .inl (G.2.1 0, 60, .inl t9)), ((d 5), .inl (G.2.1 0, 30, .inl l9)), ((d 6), .inl (G.2.1 0, 30, .inl f9))] s.heap := hP
  have hD : va_D A [((d 0), .inr (6, [.ref (d 1), .ref (d 2), .ref (d 3), .int (nI kn), .ref (d 4), .int (nI ln), .int th, .ref (d 5), .int (nI tm), .ref (d 6), .int (nI kp), .int (nI jj), .int 0])), ((d 1), .inl (G.2.1 0, 80, .inl s9)), ((d 4), .inl (G.2.1 0, 60, .inl t9)), ((d 5), .inl (G.2.1 0, 30, .inl l9)), ((d 6), .inl (G.2.1 0, 30, .inl f9))] := hD
  have hl : lv_has ls 6 [(0, .ref (d 0)), (1, .int 0)] := hl
  refine lv_aload_n hx hb dX6_part_0 rfl (lv_at hl 0 rfl) ?_
  refine lv_bipush (v := 102) hx hb dX6_part_1 (by decide) ?_
  refine lv_bipush (v := 102) hx hb dX6_part_3 (by decide) ?_
  have hPc := hP.sub (ws' := [((d 0), .inr (6, [.ref (d 1), .ref (d 2), .ref (d 3), .int (nI kn), .ref (d 4), .int (nI ln), .int th, .ref (d 5), .int (nI tm), .ref (d 6), .int (nI kp), .int (nI jj), .int 0])), ((d 4), .inl (G.2.1 0, 60, .inl t9))]) [0, 2] rfl
  have hDc := hD.sub (ws' := [((d 0), .inr (6, [.ref (d 1), .ref (d 2), .ref (d 3), .int (nI kn), .ref (d 4), .int (nI ln), .int th, .ref (d 5), .int (nI tm), .ref (d 6), .int (nI kp), .int (nI jj), .int 0])), ((d 4), .inl (G.2.1 0, 60, .inl t9))]) [0, 2] (by decide) rfl
  refine z_calli (wr := [((d 1), .inl (G.2.1 0, 80, .inl s9)), ((d 5), .inl (G.2.1 0, 30, .inl l9)), ((d 6), .inl (G.2.1 0, 30, .inl f9))]) (va_runV (As := [.int 102, .int 102]) (rest := []) ⟨hx, hb, hml, hown, hts⟩ (c_X6_isNext l G s.heap.size d kn ln tm kp jj th 0 hln (by omega) t9 102 102) (cwV 2 hts gX6_part_X6_isNext rfl rfl rfl (by decide +kernel) ⟨(Nat.le_of_ble_eq_true rfl), (Nat.le_of_ble_eq_true rfl)⟩) (zV (ci := 6) (q0 := 0) hK hPc hDc rfl rfl) rfl rfl hl.1 rfl (lv_room (Nat.le_of_ble_eq_true rfl)) dX6_part_5 ⟨(Nat.le_of_ble_eq_true rfl), (Nat.le_of_ble_eq_true rfl)⟩) hP hD hS hA [0, 2] [1, 3, 4] rfl rfl (by decide) (by decide) (fun r_1 u_1 H locs hw_1 hP hD hS => ?_)
  subst hw_1
  have hP : va_P G.1 vwCl [((d 1), .inl (G.2.1 0, 80, .inl s9)), ((d 5), .inl (G.2.1 0, 30, .inl l9)), ((d 6), .inl (G.2.1 0, 30, .inl f9)), ((d 0), .inr (6, [.ref (d 1), .ref (d 2), .ref (d 3), .int (nI kn), .ref (d 4), .int (nI ln), .int th, .ref (d 5), .int (nI tm), .ref (d 6), .int (nI kp), .int (nI jj), .int 0])), ((d 4), .inl (G.2.1 0, 60, .inl t9))] H := hP
  have hD : va_D A [((d 1), .inl (G.2.1 0, 80, .inl s9)), ((d 5), .inl (G.2.1 0, 30, .inl l9)), ((d 6), .inl (G.2.1 0, 30, .inl f9)), ((d 0), .inr (6, [.ref (d 1), .ref (d 2), .ref (d 3), .int (nI kn), .ref (d 4), .int (nI ln), .int th, .ref (d 5), .int (nI tm), .ref (d 6), .int (nI kp), .int (nI jj), .int 0])), ((d 4), .inl (G.2.1 0, 60, .inl t9))] := hD
  refine lv_if_eq (tgt := 96) hx hb dX6_part_8 (by decide) (fun c_2 => ?_) (fun c_2 => ?_)
  · have f_c_2 : ¬ (nxF t9 ln 102 102 (jj, 0)) := fun z => absurd c_2 (by rw [if_pos z]; decide)
    refine lv_aload_n hx hb dX6_part_96 rfl (lv_at hl 0 rfl) ?_
    refine lv_bipush (v := 114) hx hb dX6_part_97 (by decide) ?_
    refine lv_bipush (v := 114) hx hb dX6_part_99 (by decide) ?_
    have hPc := hP.sub (ws' := [((d 0), .inr (6, [.ref (d 1), .ref (d 2), .ref (d 3), .int (nI kn), .ref (d 4), .int (nI ln), .int th, .ref (d 5), .int (nI tm), .ref (d 6), .int (nI kp), .int (nI jj), .int 0])), ((d 4), .inl (G.2.1 0, 60, .inl t9))]) [3, 4] rfl
    have hDc := hD.sub (ws' := [((d 0), .inr (6, [.ref (d 1), .ref (d 2), .ref (d 3), .int (nI kn), .ref (d 4), .int (nI ln), .int th, .ref (d 5), .int (nI tm), .ref (d 6), .int (nI kp), .int (nI jj), .int 0])), ((d 4), .inl (G.2.1 0, 60, .inl t9))]) [3, 4] (by decide) rfl
    refine z_calli (wr := [((d 1), .inl (G.2.1 0, 80, .inl s9)), ((d 5), .inl (G.2.1 0, 30, .inl l9)), ((d 6), .inl (G.2.1 0, 30, .inl f9))]) (va_runV (As := [.int 114, .int 114]) (rest := []) ⟨hx, hb, hml, hown, hts⟩ (c_X6_isNext l G H.size d kn ln tm kp jj th 0 hln (by omega) t9 114 114) (cwV 2 hts gX6_part_X6_isNext rfl rfl rfl (by decide +kernel) ⟨(Nat.le_of_ble_eq_true rfl), (Nat.le_of_ble_eq_true rfl)⟩) (zV (ci := 6) (q0 := 0) hK hPc hDc rfl rfl) rfl rfl hl.1 rfl (lv_room (Nat.le_of_ble_eq_true rfl)) dX6_part_101 ⟨(Nat.le_of_ble_eq_true rfl), (Nat.le_of_ble_eq_true rfl)⟩) hP hD hS hA [3, 4] [0, 1, 2] rfl rfl (by decide) (by decide) (fun r_3 u_3 H locs hw_3 hP hD hS => ?_)
    subst hw_3
    have hP : va_P G.1 vwCl [((d 1), .inl (G.2.1 0, 80, .inl s9)), ((d 5), .inl (G.2.1 0, 30, .inl l9)), ((d 6), .inl (G.2.1 0, 30, .inl f9)), ((d 0), .inr (6, [.ref (d 1), .ref (d 2), .ref (d 3), .int (nI kn), .ref (d 4), .int (nI ln), .int th, .ref (d 5), .int (nI tm), .ref (d 6), .int (nI kp), .int (nI jj), .int 0])), ((d 4), .inl (G.2.1 0, 60, .inl t9))] H := hP
    have hD : va_D A [((d 1), .inl (G.2.1 0, 80, .inl s9)), ((d 5), .inl (G.2.1 0, 30, .inl l9)), ((d 6), .inl (G.2.1 0, 30, .inl f9)), ((d 0), .inr (6, [.ref (d 1), .ref (d 2), .ref (d 3), .int (nI kn), .ref (d 4), .int (nI ln), .int th, .ref (d 5), .int (nI tm), .ref (d 6), .int (nI kp), .int (nI jj), .int 0])), ((d 4), .inl (G.2.1 0, 60, .inl t9))] := hD
    refine lv_if_eq (tgt := 139) hx hb dX6_part_104 (by decide) (fun c_4 => ?_) (fun c_4 => ?_)
    · have f_c_4 : ¬ (nxF t9 ln 114 114 (jj, 0)) := fun z => absurd c_4 (by rw [if_pos z]; decide)
      refine lv_aload_n hx hb dX6_part_139 rfl (lv_at hl 0 rfl) ?_
      refine lv_bipush (v := 116) hx hb dX6_part_140 (by decide) ?_
      refine lv_bipush (v := 116) hx hb dX6_part_142 (by decide) ?_
      have hPc := hP.sub (ws' := [((d 0), .inr (6, [.ref (d 1), .ref (d 2), .ref (d 3), .int (nI kn), .ref (d 4), .int (nI ln), .int th, .ref (d 5), .int (nI tm), .ref (d 6), .int (nI kp), .int (nI jj), .int 0])), ((d 4), .inl (G.2.1 0, 60, .inl t9))]) [3, 4] rfl
      have hDc := hD.sub (ws' := [((d 0), .inr (6, [.ref (d 1), .ref (d 2), .ref (d 3), .int (nI kn), .ref (d 4), .int (nI ln), .int th, .ref (d 5), .int (nI tm), .ref (d 6), .int (nI kp), .int (nI jj), .int 0])), ((d 4), .inl (G.2.1 0, 60, .inl t9))]) [3, 4] (by decide) rfl
      refine z_calli (wr := [((d 1), .inl (G.2.1 0, 80, .inl s9)), ((d 5), .inl (G.2.1 0, 30, .inl l9)), ((d 6), .inl (G.2.1 0, 30, .inl f9))]) (va_runV (As := [.int 116, .int 116]) (rest := []) ⟨hx, hb, hml, hown, hts⟩ (c_X6_isNext l G H.size d kn ln tm kp jj th 0 hln (by omega) t9 116 116) (cwV 2 hts gX6_part_X6_isNext rfl rfl rfl (by decide +kernel) ⟨(Nat.le_of_ble_eq_true rfl), (Nat.le_of_ble_eq_true rfl)⟩) (zV (ci := 6) (q0 := 0) hK hPc hDc rfl rfl) rfl rfl hl.1 rfl (lv_room (Nat.le_of_ble_eq_true rfl)) dX6_part_144 ⟨(Nat.le_of_ble_eq_true rfl), (Nat.le_of_ble_eq_true rfl)⟩) hP hD hS hA [3, 4] [0, 1, 2] rfl rfl (by decide) (by decide) (fun r_5 u_5 H locs hw_5 hP hD hS => ?_)
      subst hw_5
      have hP : va_P G.1 vwCl [((d 1), .inl (G.2.1 0, 80, .inl s9)), ((d 5), .inl (G.2.1 0, 30, .inl l9)), ((d 6), .inl (G.2.1 0, 30, .inl f9)), ((d 0), .inr (6, [.ref (d 1), .ref (d 2), .ref (d 3), .int (nI kn), .ref (d 4), .int (nI ln), .int th, .ref (d 5), .int (nI tm), .ref (d 6), .int (nI kp), .int (nI jj), .int 0])), ((d 4), .inl (G.2.1 0, 60, .inl t9))] H := hP
      have hD : va_D A [((d 1), .inl (G.2.1 0, 80, .inl s9)), ((d 5), .inl (G.2.1 0, 30, .inl l9)), ((d 6), .inl (G.2.1 0, 30, .inl f9)), ((d 0), .inr (6, [.ref (d 1), .ref (d 2), .ref (d 3), .int (nI kn), .ref (d 4), .int (nI ln), .int th, .ref (d 5), .int (nI tm), .ref (d 6), .int (nI kp), .int (nI jj), .int 0])), ((d 4), .inl (G.2.1 0, 60, .inl t9))] := hD
      refine lv_if_eq (tgt := 223) hx hb dX6_part_147 (by decide) (fun c_6 => ?_) (fun c_6 => ?_)
      · have f_c_6 : ¬ (nxF t9 ln 116 116 (jj, 0)) := fun z => absurd c_6 (by rw [if_pos z]; decide)
        refine lv_aload_n hx hb dX6_part_223 rfl (lv_at hl 0 rfl) ?_
        refine lv_bipush (v := 103) hx hb dX6_part_224 (by decide) ?_
        refine lv_bipush (v := 103) hx hb dX6_part_226 (by decide) ?_
        have hPc := hP.sub (ws' := [((d 0), .inr (6, [.ref (d 1), .ref (d 2), .ref (d 3), .int (nI kn), .ref (d 4), .int (nI ln), .int th, .ref (d 5), .int (nI tm), .ref (d 6), .int (nI kp), .int (nI jj), .int 0])), ((d 4), .inl (G.2.1 0, 60, .inl t9))]) [3, 4] rfl
        have hDc := hD.sub (ws' := [((d 0), .inr (6, [.ref (d 1), .ref (d 2), .ref (d 3), .int (nI kn), .ref (d 4), .int (nI ln), .int th, .ref (d 5), .int (nI tm), .ref (d 6), .int (nI kp), .int (nI jj), .int 0])), ((d 4), .inl (G.2.1 0, 60, .inl t9))]) [3, 4] (by decide) rfl
        refine z_calli (wr := [((d 1), .inl (G.2.1 0, 80, .inl s9)), ((d 5), .inl (G.2.1 0, 30, .inl l9)), ((d 6), .inl (G.2.1 0, 30, .inl f9))]) (va_runV (As := [.int 103, .int 103]) (rest := []) ⟨hx, hb, hml, hown, hts⟩ (c_X6_sign l G H.size d kn ln tm kp jj th 0 hln (by omega) t9 103 103) (cwV 2 hts gX6_part_X6_sign rfl rfl rfl (by decide +kernel) ⟨(Nat.le_of_ble_eq_true rfl), (Nat.le_of_ble_eq_true rfl)⟩) (zV (ci := 6) (q0 := 0) hK hPc hDc rfl rfl) rfl rfl hl.1 rfl (lv_room (Nat.le_of_ble_eq_true rfl)) dX6_part_228 ⟨(Nat.le_of_ble_eq_true rfl), (Nat.le_of_ble_eq_true rfl)⟩) hP hD hS hA [3, 4] [0, 1, 2] rfl rfl (by decide) (by decide) (fun r_7 u_7 H locs hw_7 hP hD hS => ?_)
        obtain ⟨hv_7, hu_7⟩ := hw_7
        have hi_7 : Iv t9 ln (fun p9 => jj < p9 ∧ psT t9 p9 = 7) u_7 := by rw [hu_7]; exact sg_0 hjl hj0 f_c_2 f_c_4 f_c_6
        have hb_7 : u_7.1 ≤ ln := by rcases hi_7 with z | z; exact z.2.1; exact z.2.1
        have hP : va_P G.1 vwCl [((d 1), .inl (G.2.1 0, 80, .inl s9)), ((d 5), .inl (G.2.1 0, 30, .inl l9)), ((d 6), .inl (G.2.1 0, 30, .inl f9)), ((d 0), .inr (6, [.ref (d 1), .ref (d 2), .ref (d 3), .int (nI kn), .ref (d 4), .int (nI ln), .int th, .ref (d 5), .int (nI tm), .ref (d 6), .int (nI kp), .int (nI u_7.1), .int u_7.2])), ((d 4), .inl (G.2.1 0, 60, .inl t9))] H := hP
        have hD : va_D A [((d 1), .inl (G.2.1 0, 80, .inl s9)), ((d 5), .inl (G.2.1 0, 30, .inl l9)), ((d 6), .inl (G.2.1 0, 30, .inl f9)), ((d 0), .inr (6, [.ref (d 1), .ref (d 2), .ref (d 3), .int (nI kn), .ref (d 4), .int (nI ln), .int th, .ref (d 5), .int (nI tm), .ref (d 6), .int (nI kp), .int (nI u_7.1), .int u_7.2])), ((d 4), .inl (G.2.1 0, 60, .inl t9))] := hD
        refine lv_istore_n (lv' := [(2, .int r_7), (0, .ref (d 0)), (1, .int 0)]) hx hb dX6_part_231 rfl hl (by decide) rfl (fun ls hl => ?_)
        refine lv_aload_n hx hb dX6_part_232 rfl (lv_at hl 1 rfl) ?_
        refine lv_bipush (v := 48) hx hb dX6_part_233 (by decide) ?_
        refine lv_bipush (v := 57) hx hb dX6_part_235 (by decide) ?_
        have hPc := hP.sub (ws' := [((d 0), .inr (6, [.ref (d 1), .ref (d 2), .ref (d 3), .int (nI kn), .ref (d 4), .int (nI ln), .int th, .ref (d 5), .int (nI tm), .ref (d 6), .int (nI kp), .int (nI u_7.1), .int u_7.2])), ((d 4), .inl (G.2.1 0, 60, .inl t9))]) [3, 4] rfl
        have hDc := hD.sub (ws' := [((d 0), .inr (6, [.ref (d 1), .ref (d 2), .ref (d 3), .int (nI kn), .ref (d 4), .int (nI ln), .int th, .ref (d 5), .int (nI tm), .ref (d 6), .int (nI kp), .int (nI u_7.1), .int u_7.2])), ((d 4), .inl (G.2.1 0, 60, .inl t9))]) [3, 4] (by decide) rfl
        refine z_calli (wr := [((d 1), .inl (G.2.1 0, 80, .inl s9)), ((d 5), .inl (G.2.1 0, 30, .inl l9)), ((d 6), .inl (G.2.1 0, 30, .inl f9))]) (va_runV (As := [.int 48, .int 57]) (rest := []) ⟨hx, hb, hml, hown, hts⟩ (c_X6_sign l G H.size d kn ln tm kp u_7.1 th u_7.2 hln (by omega) t9 48 57) (cwV 2 hts gX6_part_X6_sign rfl rfl rfl (by decide +kernel) ⟨(Nat.le_of_ble_eq_true rfl), (Nat.le_of_ble_eq_true rfl)⟩) (zV (ci := 6) (q0 := 0) hK hPc hDc rfl rfl) rfl rfl hl.1 rfl (lv_room (Nat.le_of_ble_eq_true rfl)) dX6_part_237 ⟨(Nat.le_of_ble_eq_true rfl), (Nat.le_of_ble_eq_true rfl)⟩) hP hD hS hA [3, 4] [0, 1, 2] rfl rfl (by decide) (by decide) (fun r_8 u_8 H locs hw_8 hP hD hS => ?_)
        obtain ⟨hv_8, hu_8⟩ := hw_8
        have hi_8 : Iv t9 ln (fun p9 => jj < p9 ∧ psT t9 p9 = 8) u_8 := by rw [hu_8]; exact sg_7 hi_7
        have hb_8 : u_8.1 ≤ ln := by rcases hi_8 with z | z; exact z.2.1; exact z.2.1
        have hP : va_P G.1 vwCl [((d 1), .inl (G.2.1 0, 80, .inl s9)), ((d 5), .inl (G.2.1 0, 30, .inl l9)), ((d 6), .inl (G.2.1 0, 30, .inl f9)), ((d 0), .inr (6, [.ref (d 1), .ref (d 2), .ref (d 3), .int (nI kn), .ref (d 4), .int (nI ln), .int th, .ref (d 5), .int (nI tm), .ref (d 6), .int (nI kp), .int (nI u_8.1), .int u_8.2])), ((d 4), .inl (G.2.1 0, 60, .inl t9))] H := hP
        have hD : va_D A [((d 1), .inl (G.2.1 0, 80, .inl s9)), ((d 5), .inl (G.2.1 0, 30, .inl l9)), ((d 6), .inl (G.2.1 0, 30, .inl f9)), ((d 0), .inr (6, [.ref (d 1), .ref (d 2), .ref (d 3), .int (nI kn), .ref (d 4), .int (nI ln), .int th, .ref (d 5), .int (nI tm), .ref (d 6), .int (nI kp), .int (nI u_8.1), .int u_8.2])), ((d 4), .inl (G.2.1 0, 60, .inl t9))] := hD
        refine lv_bipush (v := 48) hx hb dX6_part_240 (by decide) ?_
        refine lv_isub hx hb dX6_part_242 ?_
        refine lv_istore_n (lv' := [(3, .int (r_8 - 48)), (2, .int r_7), (0, .ref (d 0)), (1, .int 0)]) hx hb dX6_part_243 rfl hl (by decide) rfl (fun ls hl => ?_)
        refine lv_aload_n hx hb dX6_part_244 rfl (lv_at hl 2 rfl) ?_
        refine va_get (D := G.1) (ci := 6) (v := .ref (d 1)) (C := RX6) (T := TX6) (N := 13) hx hb hts zi_X6_part_X6 hown hK.1 hP 3 rfl rfl 0 (by decide) (hts _ zw_X6_part_f7) (fun _ h9 => h9) rfl dX6_part_245 ?_
        refine lv_iconst (v := 0) hx hb dX6_part_248 (by decide) ?_
        refine lv_iload_n hx hb dX6_part_249 rfl (lv_at hl 3 rfl) ?_
        refine lv_if_eq (tgt := 257) hx hb dX6_part_250 (by decide) (fun c_9 => ?_) (fun c_9 => ?_)
        · refine lv_aload_n hx hb dX6_part_257 rfl (lv_at hl 2 rfl) ?_
          refine va_get (D := G.1) (ci := 6) (v := .ref (d 1)) (C := RX6) (T := TX6) (N := 13) hx hb hts zi_X6_part_X6 hown hK.1 hP 3 rfl rfl 0 (by decide) (hts _ zw_X6_part_f7) (fun _ h9 => h9) rfl dX6_part_258 ?_
          refine lv_iconst (v := 0) hx hb dX6_part_261 (by decide) ?_
          refine z_iald (k := 0) hx hb hK.1 hP 0 0 rfl rfl rfl (by omega) (by omega) dX6_part_262 ?_
          refine z_iast (k := 0) hx hb hK.1 hP hD hS 0 0 rfl rfl rfl (by omega) (by omega) dX6_part_263 (fun H locs hP hD hS => ?_)
          have hP : va_P G.1 vwCl [((d 1), .inl (G.2.1 0, 80, .inl (upd s9 0 (s9 0)))), ((d 5), .inl (G.2.1 0, 30, .inl l9)), ((d 6), .inl (G.2.1 0, 30, .inl f9)), ((d 0), .inr (6, [.ref (d 1), .ref (d 2), .ref (d 3), .int (nI kn), .ref (d 4), .int (nI ln), .int th, .ref (d 5), .int (nI tm), .ref (d 6), .int (nI kp), .int (nI u_8.1), .int u_8.2])), ((d 4), .inl (G.2.1 0, 60, .inl t9))] H := hP
          have hD : va_D A [((d 1), .inl (G.2.1 0, 80, .inl (upd s9 0 (s9 0)))), ((d 5), .inl (G.2.1 0, 30, .inl l9)), ((d 6), .inl (G.2.1 0, 30, .inl f9)), ((d 0), .inr (6, [.ref (d 1), .ref (d 2), .ref (d 3), .int (nI kn), .ref (d 4), .int (nI ln), .int th, .ref (d 5), .int (nI tm), .ref (d 6), .int (nI kp), .int (nI u_8.1), .int u_8.2])), ((d 4), .inl (G.2.1 0, 60, .inl t9))] := hD
          have hP : va_P G.1 vwCl [((d 1), .inl (G.2.1 0, 80, .inl s9)), ((d 5), .inl (G.2.1 0, 30, .inl l9)), ((d 6), .inl (G.2.1 0, 30, .inl f9)), ((d 0), .inr (6, [.ref (d 1), .ref (d 2), .ref (d 3), .int (nI kn), .ref (d 4), .int (nI ln), .int th, .ref (d 5), .int (nI tm), .ref (d 6), .int (nI kp), .int (nI u_8.1), .int u_8.2])), ((d 4), .inl (G.2.1 0, 60, .inl t9))] H := zP_arr (g := s9) hP 0 rfl (fun j hj => if h : j = 0 then by subst h; exact pk_us else pk_un h) rfl
          have hD : va_D A [((d 1), .inl (G.2.1 0, 80, .inl s9)), ((d 5), .inl (G.2.1 0, 30, .inl l9)), ((d 6), .inl (G.2.1 0, 30, .inl f9)), ((d 0), .inr (6, [.ref (d 1), .ref (d 2), .ref (d 3), .int (nI kn), .ref (d 4), .int (nI ln), .int th, .ref (d 5), .int (nI tm), .ref (d 6), .int (nI kp), .int (nI u_8.1), .int u_8.2])), ((d 4), .inl (G.2.1 0, 60, .inl t9))] := zD_arr hD 0 rfl rfl
          have hP9 := hP.sub (ws' := [((d 0), .inr (6, [.ref (d 1), .ref (d 2), .ref (d 3), .int (nI kn), .ref (d 4), .int (nI ln), .int th, .ref (d 5), .int (nI tm), .ref (d 6), .int (nI kp), .int (nI u_8.1), .int u_8.2])), ((d 1), .inl (G.2.1 0, 80, .inl s9)), ((d 4), .inl (G.2.1 0, 60, .inl t9)), ((d 5), .inl (G.2.1 0, 30, .inl l9)), ((d 6), .inl (G.2.1 0, 30, .inl f9))]) [3, 0, 4, 1, 2] rfl
          have hD9 := hD.sub (ws' := [((d 0), .inr (6, [.ref (d 1), .ref (d 2), .ref (d 3), .int (nI kn), .ref (d 4), .int (nI ln), .int th, .ref (d 5), .int (nI tm), .ref (d 6), .int (nI kp), .int (nI u_8.1), .int u_8.2])), ((d 1), .inl (G.2.1 0, 80, .inl s9)), ((d 4), .inl (G.2.1 0, 60, .inl t9)), ((d 5), .inl (G.2.1 0, 30, .inl l9)), ((d 6), .inl (G.2.1 0, 30, .inl f9))]) [3, 0, 4, 1, 2] (by decide) rfl
          exact z_vret hx hb hr hlocks ((u_8.1, u_8.2), tm, l9) hP9 hD9 hS (Nat.le_of_ble_eq_true rfl) (Nat.le_of_ble_eq_true rfl) dX6_part_264 ⟨hi_8.elim (fun z => Or.inl ⟨z.1, z.2.1, z.2.2.1, Or.inl z.2.2.2⟩) (fun z => Or.inr z), htm⟩
        · exact absurd rfl c_9
      · have f_c_6 : nxF t9 ln 116 116 (jj, 0) := Decidable.byContradiction (fun z => c_6 (if_neg z))
        have hx0 : t9 jj = 116 := eq_of f_c_6.2.2.1 f_c_6.2.2.2
        have hjn : jj < ln := f_c_6.2.1
        have hi0 : Iv t9 ln (fun p9 => jj < p9 ∧ psT t9 p9 = 5) (jj + 1, 0) := Or.inl ⟨rfl, hjn, Nat.lt_succ_self jj, by show plA (psT t9 jj) (t9 jj) = 5; rw [hj0, hx0]; rfl⟩
        refine lv_aload_n hx hb dX6_part_150 rfl (lv_at hl 0 rfl) ?_
        refine lv_dup hx hb dX6_part_151 rfl ?_
        refine va_get (D := G.1) (ci := 6) (v := .int (nI jj)) (C := RX6) (T := TX6) (N := 13) hx hb hts zi_X6_part_X6 hown hK.1 hP 3 rfl rfl 11 (by decide) (hts _ zw_X6_part_f119) (fun _ h9 => h9) rfl dX6_part_152 ?_
        refine lv_iconst (v := 1) hx hb dX6_part_155 (by decide) ?_
        refine lv_iadd hx hb dX6_part_156 ?_
        refine z_top (nI_1 _) ?_
        refine va_put (D := G.1) (ci := 6) (v := .int (nI (jj + 1))) (ty := .int) (C := RX6) (T := TX6) (N := 13) hx hb hts zi_X6_part_X6 tyX6 tyX6_ok nmX6 hown hK.1 hP hD hS 3 rfl rfl 11 (by decide) (hts _ zw_X6_part_f119) (fun _ h9 => h9) rfl (by decide +kernel) rfl rfl (Nat.le_of_ble_eq_true rfl) dX6_part_157 (fun H locs hP hD hS => ?_)
        have hP : va_P G.1 vwCl [((d 1), .inl (G.2.1 0, 80, .inl s9)), ((d 5), .inl (G.2.1 0, 30, .inl l9)), ((d 6), .inl (G.2.1 0, 30, .inl f9)), ((d 0), .inr (6, [.ref (d 1), .ref (d 2), .ref (d 3), .int (nI kn), .ref (d 4), .int (nI ln), .int th, .ref (d 5), .int (nI tm), .ref (d 6), .int (nI kp), .int (nI (jj + 1)), .int 0])), ((d 4), .inl (G.2.1 0, 60, .inl t9))] H := hP
        have hD : va_D A [((d 1), .inl (G.2.1 0, 80, .inl s9)), ((d 5), .inl (G.2.1 0, 30, .inl l9)), ((d 6), .inl (G.2.1 0, 30, .inl f9)), ((d 0), .inr (6, [.ref (d 1), .ref (d 2), .ref (d 3), .int (nI kn), .ref (d 4), .int (nI ln), .int th, .ref (d 5), .int (nI tm), .ref (d 6), .int (nI kp), .int (nI (jj + 1)), .int 0])), ((d 4), .inl (G.2.1 0, 60, .inl t9))] := hD
        refine lv_aload_n hx hb dX6_part_160 rfl (lv_at hl 0 rfl) ?_
        refine lv_bipush (v := 49) hx hb dX6_part_161 (by decide) ?_
        refine lv_bipush (v := 57) hx hb dX6_part_163 (by decide) ?_
        have hPc := hP.sub (ws' := [((d 0), .inr (6, [.ref (d 1), .ref (d 2), .ref (d 3), .int (nI kn), .ref (d 4), .int (nI ln), .int th, .ref (d 5), .int (nI tm), .ref (d 6), .int (nI kp), .int (nI (jj + 1)), .int 0])), ((d 4), .inl (G.2.1 0, 60, .inl t9))]) [3, 4] rfl
        have hDc := hD.sub (ws' := [((d 0), .inr (6, [.ref (d 1), .ref (d 2), .ref (d 3), .int (nI kn), .ref (d 4), .int (nI ln), .int th, .ref (d 5), .int (nI tm), .ref (d 6), .int (nI kp), .int (nI (jj + 1)), .int 0])), ((d 4), .inl (G.2.1 0, 60, .inl t9))]) [3, 4] (by decide) rfl
        refine z_calli (wr := [((d 1), .inl (G.2.1 0, 80, .inl s9)), ((d 5), .inl (G.2.1 0, 30, .inl l9)), ((d 6), .inl (G.2.1 0, 30, .inl f9))]) (va_runV (As := [.int 49, .int 57]) (rest := []) ⟨hx, hb, hml, hown, hts⟩ (c_X6_sign l G H.size d kn ln tm kp (jj + 1) th 0 hln (by omega) t9 49 57) (cwV 2 hts gX6_part_X6_sign rfl rfl rfl (by decide +kernel) ⟨(Nat.le_of_ble_eq_true rfl), (Nat.le_of_ble_eq_true rfl)⟩) (zV (ci := 6) (q0 := 0) hK hPc hDc rfl rfl) rfl rfl hl.1 rfl (lv_room (Nat.le_of_ble_eq_true rfl)) dX6_part_165 ⟨(Nat.le_of_ble_eq_true rfl), (Nat.le_of_ble_eq_true rfl)⟩) hP hD hS hA [3, 4] [0, 1, 2] rfl rfl (by decide) (by decide) (fun r_10 u_10 H locs hw_10 hP hD hS => ?_)
        obtain ⟨hv_10, hu_10⟩ := hw_10
        have hi_10 : Iv t9 ln (fun p9 => jj < p9 ∧ psT t9 p9 = 6) u_10 := by rw [hu_10]; exact sg_5 hi0
        have hb_10 : u_10.1 ≤ ln := by rcases hi_10 with z | z; exact z.2.1; exact z.2.1
        have hP : va_P G.1 vwCl [((d 1), .inl (G.2.1 0, 80, .inl s9)), ((d 5), .inl (G.2.1 0, 30, .inl l9)), ((d 6), .inl (G.2.1 0, 30, .inl f9)), ((d 0), .inr (6, [.ref (d 1), .ref (d 2), .ref (d 3), .int (nI kn), .ref (d 4), .int (nI ln), .int th, .ref (d 5), .int (nI tm), .ref (d 6), .int (nI kp), .int (nI u_10.1), .int u_10.2])), ((d 4), .inl (G.2.1 0, 60, .inl t9))] H := hP
        have hD : va_D A [((d 1), .inl (G.2.1 0, 80, .inl s9)), ((d 5), .inl (G.2.1 0, 30, .inl l9)), ((d 6), .inl (G.2.1 0, 30, .inl f9)), ((d 0), .inr (6, [.ref (d 1), .ref (d 2), .ref (d 3), .int (nI kn), .ref (d 4), .int (nI ln), .int th, .ref (d 5), .int (nI tm), .ref (d 6), .int (nI kp), .int (nI u_10.1), .int u_10.2])), ((d 4), .inl (G.2.1 0, 60, .inl t9))] := hD
        refine lv_bipush (v := 48) hx hb dX6_part_168 (by decide) ?_
        refine lv_isub hx hb dX6_part_170 ?_
        refine lv_istore_n (lv' := [(2, .int (r_10 - 48)), (0, .ref (d 0)), (1, .int 0)]) hx hb dX6_part_171 rfl hl (by decide) rfl (fun ls hl => ?_)
        refine lv_aload_n hx hb dX6_part_172 rfl (lv_at hl 1 rfl) ?_
        refine lv_bipush (v := 48) hx hb dX6_part_173 (by decide) ?_
        refine lv_bipush (v := 57) hx hb dX6_part_175 (by decide) ?_
        have hPc := hP.sub (ws' := [((d 0), .inr (6, [.ref (d 1), .ref (d 2), .ref (d 3), .int (nI kn), .ref (d 4), .int (nI ln), .int th, .ref (d 5), .int (nI tm), .ref (d 6), .int (nI kp), .int (nI u_10.1), .int u_10.2])), ((d 4), .inl (G.2.1 0, 60, .inl t9))]) [3, 4] rfl
        have hDc := hD.sub (ws' := [((d 0), .inr (6, [.ref (d 1), .ref (d 2), .ref (d 3), .int (nI kn), .ref (d 4), .int (nI ln), .int th, .ref (d 5), .int (nI tm), .ref (d 6), .int (nI kp), .int (nI u_10.1), .int u_10.2])), ((d 4), .inl (G.2.1 0, 60, .inl t9))]) [3, 4] (by decide) rfl
        refine z_calli (wr := [((d 1), .inl (G.2.1 0, 80, .inl s9)), ((d 5), .inl (G.2.1 0, 30, .inl l9)), ((d 6), .inl (G.2.1 0, 30, .inl f9))]) (va_runV (As := [.int 48, .int 57]) (rest := []) ⟨hx, hb, hml, hown, hts⟩ (c_X6_isNext l G H.size d kn ln tm kp u_10.1 th u_10.2 hln (by omega) t9 48 57) (cwV 2 hts gX6_part_X6_isNext rfl rfl rfl (by decide +kernel) ⟨(Nat.le_of_ble_eq_true rfl), (Nat.le_of_ble_eq_true rfl)⟩) (zV (ci := 6) (q0 := 0) hK hPc hDc rfl rfl) rfl rfl hl.1 rfl (lv_room (Nat.le_of_ble_eq_true rfl)) dX6_part_177 ⟨(Nat.le_of_ble_eq_true rfl), (Nat.le_of_ble_eq_true rfl)⟩) hP hD hS hA [3, 4] [0, 1, 2] rfl rfl (by decide) (by decide) (fun r_11 u_11 H locs hw_11 hP hD hS => ?_)
        subst hw_11
        have hP : va_P G.1 vwCl [((d 1), .inl (G.2.1 0, 80, .inl s9)), ((d 5), .inl (G.2.1 0, 30, .inl l9)), ((d 6), .inl (G.2.1 0, 30, .inl f9)), ((d 0), .inr (6, [.ref (d 1), .ref (d 2), .ref (d 3), .int (nI kn), .ref (d 4), .int (nI ln), .int th, .ref (d 5), .int (nI tm), .ref (d 6), .int (nI kp), .int (nI u_10.1), .int u_10.2])), ((d 4), .inl (G.2.1 0, 60, .inl t9))] H := hP
        have hD : va_D A [((d 1), .inl (G.2.1 0, 80, .inl s9)), ((d 5), .inl (G.2.1 0, 30, .inl l9)), ((d 6), .inl (G.2.1 0, 30, .inl f9)), ((d 0), .inr (6, [.ref (d 1), .ref (d 2), .ref (d 3), .int (nI kn), .ref (d 4), .int (nI ln), .int th, .ref (d 5), .int (nI tm), .ref (d 6), .int (nI kp), .int (nI u_10.1), .int u_10.2])), ((d 4), .inl (G.2.1 0, 60, .inl t9))] := hD
        refine lv_if_eq (tgt := 211) hx hb dX6_part_180 (by decide) (fun c_12 => ?_) (fun c_12 => ?_)
        · have f_c_12 : ¬ (nxF t9 ln 48 57 (u_10.1, u_10.2)) := fun z => absurd c_12 (by rw [if_pos z]; decide)
          refine lv_iload_n hx hb dX6_part_211 rfl (lv_at hl 2 rfl) ?_
          refine lv_if_eq (tgt := 220) hx hb dX6_part_212 (by decide) (fun c_13 => ?_) (fun c_13 => ?_)
          · refine lv_goto (tgt := 264) hx hb dX6_part_220 (by decide) ?_
            have hP9 := hP.sub (ws' := [((d 0), .inr (6, [.ref (d 1), .ref (d 2), .ref (d 3), .int (nI kn), .ref (d 4), .int (nI ln), .int th, .ref (d 5), .int (nI tm), .ref (d 6), .int (nI kp), .int (nI u_10.1), .int u_10.2])), ((d 1), .inl (G.2.1 0, 80, .inl s9)), ((d 4), .inl (G.2.1 0, 60, .inl t9)), ((d 5), .inl (G.2.1 0, 30, .inl l9)), ((d 6), .inl (G.2.1 0, 30, .inl f9))]) [3, 0, 4, 1, 2] rfl
            have hD9 := hD.sub (ws' := [((d 0), .inr (6, [.ref (d 1), .ref (d 2), .ref (d 3), .int (nI kn), .ref (d 4), .int (nI ln), .int th, .ref (d 5), .int (nI tm), .ref (d 6), .int (nI kp), .int (nI u_10.1), .int u_10.2])), ((d 1), .inl (G.2.1 0, 80, .inl s9)), ((d 4), .inl (G.2.1 0, 60, .inl t9)), ((d 5), .inl (G.2.1 0, 30, .inl l9)), ((d 6), .inl (G.2.1 0, 30, .inl f9))]) [3, 0, 4, 1, 2] (by decide) rfl
            exact z_vret hx hb hr hlocks ((u_10.1, u_10.2), tm, l9) hP9 hD9 hS (Nat.le_of_ble_eq_true rfl) (Nat.le_of_ble_eq_true rfl) dX6_part_264 ⟨hi_10.elim (fun z => Or.inl ⟨z.1, z.2.1, z.2.2.1, Or.inr ⟨z.2.2.2, fun y => f_c_12 ⟨z.1, y.1, y.2.1, y.2.2⟩⟩⟩) (fun z => Or.inr z), htm⟩
          · exact absurd rfl c_13
        · have f_c_12 : nxF t9 ln 48 57 (u_10.1, u_10.2) := Decidable.byContradiction (fun z => c_12 (if_neg z))
          refine lv_bipush (v := 10) hx hb dX6_part_183 (by decide) ?_
          refine lv_iload_n hx hb dX6_part_185 rfl (lv_at hl 0 rfl) ?_
          refine lv_imul hx hb dX6_part_186 ?_
          refine lv_aload_n hx hb dX6_part_187 rfl (lv_at hl 1 rfl) ?_
          refine va_get (D := G.1) (ci := 6) (v := .ref (d 4)) (C := RX6) (T := TX6) (N := 13) hx hb hts zi_X6_part_X6 hown hK.1 hP 3 rfl rfl 4 (by decide) (hts _ zw_X6_part_f19) (fun _ h9 => h9) rfl dX6_part_188 ?_
          refine lv_aload_n hx hb dX6_part_191 rfl (lv_at hl 1 rfl) ?_
          refine va_get (D := G.1) (ci := 6) (v := .int (nI u_10.1)) (C := RX6) (T := TX6) (N := 13) hx hb hts zi_X6_part_X6 hown hK.1 hP 3 rfl rfl 11 (by decide) (hts _ zw_X6_part_f119) (fun _ h9 => h9) rfl dX6_part_192 ?_
          refine z_iald (k := u_10.1) hx hb hK.1 hP 4 0 rfl rfl rfl (Nat.lt_of_lt_of_le f_c_12.2.1 hln) (by omega) dX6_part_195 ?_
          refine lv_iadd hx hb dX6_part_196 ?_
          refine lv_bipush (v := 48) hx hb dX6_part_197 (by decide) ?_
          refine lv_isub hx hb dX6_part_199 ?_
          refine lv_istore_n (lv' := [(2, .int (((10 * (r_10 - 48)) + (t9 u_10.1)) - 48)), (0, .ref (d 0)), (1, .int 0)]) hx hb dX6_part_200 rfl hl (by decide) rfl (fun ls hl => ?_)
          refine lv_aload_n hx hb dX6_part_201 rfl (lv_at hl 1 rfl) ?_
          refine lv_dup hx hb dX6_part_202 rfl ?_
          refine va_get (D := G.1) (ci := 6) (v := .int (nI u_10.1)) (C := RX6) (T := TX6) (N := 13) hx hb hts zi_X6_part_X6 hown hK.1 hP 3 rfl rfl 11 (by decide) (hts _ zw_X6_part_f119) (fun _ h9 => h9) rfl dX6_part_203 ?_
          refine lv_iconst (v := 1) hx hb dX6_part_206 (by decide) ?_
          refine lv_iadd hx hb dX6_part_207 ?_
          refine z_top (nI_1 _) ?_
          refine va_put (D := G.1) (ci := 6) (v := .int (nI (u_10.1 + 1))) (ty := .int) (C := RX6) (T := TX6) (N := 13) hx hb hts zi_X6_part_X6 tyX6 tyX6_ok nmX6 hown hK.1 hP hD hS 3 rfl rfl 11 (by decide) (hts _ zw_X6_part_f119) (fun _ h9 => h9) rfl (by decide +kernel) rfl rfl (Nat.le_of_ble_eq_true rfl) dX6_part_208 (fun H locs hP hD hS => ?_)
          have hP : va_P G.1 vwCl [((d 1), .inl (G.2.1 0, 80, .inl s9)), ((d 5), .inl (G.2.1 0, 30, .inl l9)), ((d 6), .inl (G.2.1 0, 30, .inl f9)), ((d 0), .inr (6, [.ref (d 1), .ref (d 2), .ref (d 3), .int (nI kn), .ref (d 4), .int (nI ln), .int th, .ref (d 5), .int (nI tm), .ref (d 6), .int (nI kp), .int (nI (u_10.1 + 1)), .int u_10.2])), ((d 4), .inl (G.2.1 0, 60, .inl t9))] H := hP
          have hD : va_D A [((d 1), .inl (G.2.1 0, 80, .inl s9)), ((d 5), .inl (G.2.1 0, 30, .inl l9)), ((d 6), .inl (G.2.1 0, 30, .inl f9)), ((d 0), .inr (6, [.ref (d 1), .ref (d 2), .ref (d 3), .int (nI kn), .ref (d 4), .int (nI ln), .int th, .ref (d 5), .int (nI tm), .ref (d 6), .int (nI kp), .int (nI (u_10.1 + 1)), .int u_10.2])), ((d 4), .inl (G.2.1 0, 60, .inl t9))] := hD
          refine lv_iload_n hx hb dX6_part_211 rfl (lv_at hl 2 rfl) ?_
          refine lv_if_eq (tgt := 220) hx hb dX6_part_212 (by decide) (fun c_14 => ?_) (fun c_14 => ?_)
          · refine lv_goto (tgt := 264) hx hb dX6_part_220 (by decide) ?_
            have hP9 := hP.sub (ws' := [((d 0), .inr (6, [.ref (d 1), .ref (d 2), .ref (d 3), .int (nI kn), .ref (d 4), .int (nI ln), .int th, .ref (d 5), .int (nI tm), .ref (d 6), .int (nI kp), .int (nI (u_10.1 + 1)), .int u_10.2])), ((d 1), .inl (G.2.1 0, 80, .inl s9)), ((d 4), .inl (G.2.1 0, 60, .inl t9)), ((d 5), .inl (G.2.1 0, 30, .inl l9)), ((d 6), .inl (G.2.1 0, 30, .inl f9))]) [3, 0, 4, 1, 2] rfl
            have hD9 := hD.sub (ws' := [((d 0), .inr (6, [.ref (d 1), .ref (d 2), .ref (d 3), .int (nI kn), .ref (d 4), .int (nI ln), .int th, .ref (d 5), .int (nI tm), .ref (d 6), .int (nI kp), .int (nI (u_10.1 + 1)), .int u_10.2])), ((d 1), .inl (G.2.1 0, 80, .inl s9)), ((d 4), .inl (G.2.1 0, 60, .inl t9)), ((d 5), .inl (G.2.1 0, 30, .inl l9)), ((d 6), .inl (G.2.1 0, 30, .inl f9))]) [3, 0, 4, 1, 2] (by decide) rfl
            exact z_vret hx hb hr hlocks (((u_10.1 + 1), u_10.2), tm, l9) hP9 hD9 hS (Nat.le_of_ble_eq_true rfl) (Nat.le_of_ble_eq_true rfl) dX6_part_264 ⟨Or.inl ⟨f_c_12.1, f_c_12.2.1, by
              rcases hi_10 with z | z
              · exact ⟨Nat.lt_succ_of_lt z.2.2.1, Or.inl (by show plA (psT t9 u_10.1) (t9 u_10.1) = 8; rw [z.2.2.2, plA_6, if_pos f_c_12.2.2])⟩
              · exact absurd (z.1.symm.trans f_c_12.1) (by decide)⟩, htm⟩
          · exact absurd rfl c_14
    · have f_c_4 : nxF t9 ln 114 114 (jj, 0) := Decidable.byContradiction (fun z => c_4 (if_neg z))
      have hx0 : t9 jj = 114 := eq_of f_c_4.2.2.1 f_c_4.2.2.2
      have hjn : jj < ln := f_c_4.2.1
      have hi0 : Iv t9 ln (fun p9 => jj < p9 ∧ psT t9 p9 = 8) (jj + 1, 0) := Or.inl ⟨rfl, hjn, Nat.lt_succ_self jj, by show plA (psT t9 jj) (t9 jj) = 8; rw [hj0, hx0]; rfl⟩
      refine lv_aload_n hx hb dX6_part_107 rfl (lv_at hl 0 rfl) ?_
      refine lv_dup hx hb dX6_part_108 rfl ?_
      refine va_get (D := G.1) (ci := 6) (v := .int (nI jj)) (C := RX6) (T := TX6) (N := 13) hx hb hts zi_X6_part_X6 hown hK.1 hP 3 rfl rfl 11 (by decide) (hts _ zw_X6_part_f119) (fun _ h9 => h9) rfl dX6_part_109 ?_
      refine lv_iconst (v := 1) hx hb dX6_part_112 (by decide) ?_
      refine lv_iadd hx hb dX6_part_113 ?_
      refine z_top (nI_1 _) ?_
      refine va_put (D := G.1) (ci := 6) (v := .int (nI (jj + 1))) (ty := .int) (C := RX6) (T := TX6) (N := 13) hx hb hts zi_X6_part_X6 tyX6 tyX6_ok nmX6 hown hK.1 hP hD hS 3 rfl rfl 11 (by decide) (hts _ zw_X6_part_f119) (fun _ h9 => h9) rfl (by decide +kernel) rfl rfl (Nat.le_of_ble_eq_true rfl) dX6_part_114 (fun H locs hP hD hS => ?_)
      have hP : va_P G.1 vwCl [((d 1), .inl (G.2.1 0, 80, .inl s9)), ((d 5), .inl (G.2.1 0, 30, .inl l9)), ((d 6), .inl (G.2.1 0, 30, .inl f9)), ((d 0), .inr (6, [.ref (d 1), .ref (d 2), .ref (d 3), .int (nI kn), .ref (d 4), .int (nI ln), .int th, .ref (d 5), .int (nI tm), .ref (d 6), .int (nI kp), .int (nI (jj + 1)), .int 0])), ((d 4), .inl (G.2.1 0, 60, .inl t9))] H := hP
      have hD : va_D A [((d 1), .inl (G.2.1 0, 80, .inl s9)), ((d 5), .inl (G.2.1 0, 30, .inl l9)), ((d 6), .inl (G.2.1 0, 30, .inl f9)), ((d 0), .inr (6, [.ref (d 1), .ref (d 2), .ref (d 3), .int (nI kn), .ref (d 4), .int (nI ln), .int th, .ref (d 5), .int (nI tm), .ref (d 6), .int (nI kp), .int (nI (jj + 1)), .int 0])), ((d 4), .inl (G.2.1 0, 60, .inl t9))] := hD
      refine lv_aload_n hx hb dX6_part_117 rfl (lv_at hl 0 rfl) ?_
      have hPc := hP.sub (ws' := [((d 0), .inr (6, [.ref (d 1), .ref (d 2), .ref (d 3), .int (nI kn), .ref (d 4), .int (nI ln), .int th, .ref (d 5), .int (nI tm), .ref (d 6), .int (nI kp), .int (nI (jj + 1)), .int 0])), ((d 5), .inl (G.2.1 0, 30, .inl l9))]) [3, 1] rfl
      have hDc := hD.sub (ws' := [((d 0), .inr (6, [.ref (d 1), .ref (d 2), .ref (d 3), .int (nI kn), .ref (d 4), .int (nI ln), .int th, .ref (d 5), .int (nI tm), .ref (d 6), .int (nI kp), .int (nI (jj + 1)), .int 0])), ((d 5), .inl (G.2.1 0, 30, .inl l9))]) [3, 1] (by decide) rfl
      refine z_callv (wr := [((d 1), .inl (G.2.1 0, 80, .inl s9)), ((d 6), .inl (G.2.1 0, 30, .inl f9)), ((d 4), .inl (G.2.1 0, 60, .inl t9))]) (va_runV (As := []) (rest := []) ⟨hx, hb, hml, hown, hts⟩ (c_X6_layRepeat l G H.size d kn ln tm kp (jj + 1) th 0 l9) (cwV 0 hts gX6_part_X6_layRepeat rfl rfl rfl (by decide +kernel) ⟨(Nat.le_of_ble_eq_true rfl), (Nat.le_of_ble_eq_true rfl)⟩) (zV (ci := 6) (q0 := 0) hK hPc hDc rfl rfl) rfl rfl hl.1 rfl (lv_room (Nat.le_of_ble_eq_true rfl)) dX6_part_118 ⟨(Nat.le_of_ble_eq_true rfl), (Nat.le_of_ble_eq_true rfl)⟩) hP hD hS hA [3, 1] [0, 2, 4] rfl rfl (by decide) (by decide) (fun u_15 H locs hw_15 hP hD hS => ?_)
      have hP : va_P G.1 vwCl [((d 1), .inl (G.2.1 0, 80, .inl s9)), ((d 6), .inl (G.2.1 0, 30, .inl f9)), ((d 4), .inl (G.2.1 0, 60, .inl t9)), ((d 0), .inr (6, [.ref (d 1), .ref (d 2), .ref (d 3), .int (nI kn), .ref (d 4), .int (nI ln), .int th, .ref (d 5), .int (nI 3), .ref (d 6), .int (nI kp), .int (nI (jj + 1)), .int 0])), ((d 5), .inl (G.2.1 0, 30, .inl u_15))] H := hP
      have hD : va_D A [((d 1), .inl (G.2.1 0, 80, .inl s9)), ((d 6), .inl (G.2.1 0, 30, .inl f9)), ((d 4), .inl (G.2.1 0, 60, .inl t9)), ((d 0), .inr (6, [.ref (d 1), .ref (d 2), .ref (d 3), .int (nI kn), .ref (d 4), .int (nI ln), .int th, .ref (d 5), .int (nI 3), .ref (d 6), .int (nI kp), .int (nI (jj + 1)), .int 0])), ((d 5), .inl (G.2.1 0, 30, .inl u_15))] := hD
      refine lv_iload_n hx hb dX6_part_121 rfl (lv_at hl 1 rfl) ?_
      refine lv_if_eq (tgt := 134) hx hb dX6_part_122 (by decide) (fun c_16 => ?_) (fun c_16 => ?_)
      · refine lv_iconst (v := 0) hx hb dX6_part_134 (by decide) ?_
        refine lv_istore_n (lv' := [(2, .int 0), (0, .ref (d 0)), (1, .int 0)]) hx hb dX6_part_135 rfl hl (by decide) rfl (fun ls hl => ?_)
        refine lv_goto (tgt := 264) hx hb dX6_part_136 (by decide) ?_
        have hP9 := hP.sub (ws' := [((d 0), .inr (6, [.ref (d 1), .ref (d 2), .ref (d 3), .int (nI kn), .ref (d 4), .int (nI ln), .int th, .ref (d 5), .int (nI 3), .ref (d 6), .int (nI kp), .int (nI (jj + 1)), .int 0])), ((d 1), .inl (G.2.1 0, 80, .inl s9)), ((d 4), .inl (G.2.1 0, 60, .inl t9)), ((d 5), .inl (G.2.1 0, 30, .inl u_15)), ((d 6), .inl (G.2.1 0, 30, .inl f9))]) [3, 0, 2, 4, 1] rfl
        have hD9 := hD.sub (ws' := [((d 0), .inr (6, [.ref (d 1), .ref (d 2), .ref (d 3), .int (nI kn), .ref (d 4), .int (nI ln), .int th, .ref (d 5), .int (nI 3), .ref (d 6), .int (nI kp), .int (nI (jj + 1)), .int 0])), ((d 1), .inl (G.2.1 0, 80, .inl s9)), ((d 4), .inl (G.2.1 0, 60, .inl t9)), ((d 5), .inl (G.2.1 0, 30, .inl u_15)), ((d 6), .inl (G.2.1 0, 30, .inl f9))]) [3, 0, 2, 4, 1] (by decide) rfl
        exact z_vret hx hb hr hlocks (((jj + 1), 0), 3, u_15) hP9 hD9 hS (Nat.le_of_ble_eq_true rfl) (Nat.le_of_ble_eq_true rfl) dX6_part_264 ⟨Or.inl ⟨rfl, hjn, Nat.lt_succ_self jj, Or.inl (by show plA (psT t9 jj) (t9 jj) = 8; rw [hj0, hx0]; rfl)⟩, trivial⟩
      · exact absurd rfl c_16
  · have f_c_2 : nxF t9 ln 102 102 (jj, 0) := Decidable.byContradiction (fun z => c_2 (if_neg z))
    have hx0 : t9 jj = 102 := eq_of f_c_2.2.2.1 f_c_2.2.2.2
    have hjn : jj < ln := f_c_2.2.1
    have hi0 : Iv t9 ln (fun p9 => jj < p9 ∧ psT t9 p9 = 1) (jj + 1, 0) := Or.inl ⟨rfl, hjn, Nat.lt_succ_self jj, by show plA (psT t9 jj) (t9 jj) = 1; rw [hj0, hx0]; rfl⟩
    refine lv_aload_n hx hb dX6_part_11 rfl (lv_at hl 0 rfl) ?_
    refine lv_dup hx hb dX6_part_12 rfl ?_
    refine va_get (D := G.1) (ci := 6) (v := .int (nI jj)) (C := RX6) (T := TX6) (N := 13) hx hb hts zi_X6_part_X6 hown hK.1 hP 3 rfl rfl 11 (by decide) (hts _ zw_X6_part_f119) (fun _ h9 => h9) rfl dX6_part_13 ?_
    refine lv_iconst (v := 1) hx hb dX6_part_16 (by decide) ?_
    refine lv_iadd hx hb dX6_part_17 ?_
    refine z_top (nI_1 _) ?_
    refine va_put (D := G.1) (ci := 6) (v := .int (nI (jj + 1))) (ty := .int) (C := RX6) (T := TX6) (N := 13) hx hb hts zi_X6_part_X6 tyX6 tyX6_ok nmX6 hown hK.1 hP hD hS 3 rfl rfl 11 (by decide) (hts _ zw_X6_part_f119) (fun _ h9 => h9) rfl (by decide +kernel) rfl rfl (Nat.le_of_ble_eq_true rfl) dX6_part_18 (fun H locs hP hD hS => ?_)
    have hP : va_P G.1 vwCl [((d 1), .inl (G.2.1 0, 80, .inl s9)), ((d 5), .inl (G.2.1 0, 30, .inl l9)), ((d 6), .inl (G.2.1 0, 30, .inl f9)), ((d 0), .inr (6, [.ref (d 1), .ref (d 2), .ref (d 3), .int (nI kn), .ref (d 4), .int (nI ln), .int th, .ref (d 5), .int (nI tm), .ref (d 6), .int (nI kp), .int (nI (jj + 1)), .int 0])), ((d 4), .inl (G.2.1 0, 60, .inl t9))] H := hP
    have hD : va_D A [((d 1), .inl (G.2.1 0, 80, .inl s9)), ((d 5), .inl (G.2.1 0, 30, .inl l9)), ((d 6), .inl (G.2.1 0, 30, .inl f9)), ((d 0), .inr (6, [.ref (d 1), .ref (d 2), .ref (d 3), .int (nI kn), .ref (d 4), .int (nI ln), .int th, .ref (d 5), .int (nI tm), .ref (d 6), .int (nI kp), .int (nI (jj + 1)), .int 0])), ((d 4), .inl (G.2.1 0, 60, .inl t9))] := hD
    refine lv_aload_n hx hb dX6_part_21 rfl (lv_at hl 0 rfl) ?_
    refine lv_bipush (v := 48) hx hb dX6_part_22 (by decide) ?_
    refine lv_bipush (v := 49) hx hb dX6_part_24 (by decide) ?_
    have hPc := hP.sub (ws' := [((d 0), .inr (6, [.ref (d 1), .ref (d 2), .ref (d 3), .int (nI kn), .ref (d 4), .int (nI ln), .int th, .ref (d 5), .int (nI tm), .ref (d 6), .int (nI kp), .int (nI (jj + 1)), .int 0])), ((d 4), .inl (G.2.1 0, 60, .inl t9))]) [3, 4] rfl
    have hDc := hD.sub (ws' := [((d 0), .inr (6, [.ref (d 1), .ref (d 2), .ref (d 3), .int (nI kn), .ref (d 4), .int (nI ln), .int th, .ref (d 5), .int (nI tm), .ref (d 6), .int (nI kp), .int (nI (jj + 1)), .int 0])), ((d 4), .inl (G.2.1 0, 60, .inl t9))]) [3, 4] (by decide) rfl
    refine z_calli (wr := [((d 1), .inl (G.2.1 0, 80, .inl s9)), ((d 5), .inl (G.2.1 0, 30, .inl l9)), ((d 6), .inl (G.2.1 0, 30, .inl f9))]) (va_runV (As := [.int 48, .int 49]) (rest := []) ⟨hx, hb, hml, hown, hts⟩ (c_X6_sign l G H.size d kn ln tm kp (jj + 1) th 0 hln (by omega) t9 48 49) (cwV 2 hts gX6_part_X6_sign rfl rfl rfl (by decide +kernel) ⟨(Nat.le_of_ble_eq_true rfl), (Nat.le_of_ble_eq_true rfl)⟩) (zV (ci := 6) (q0 := 0) hK hPc hDc rfl rfl) rfl rfl hl.1 rfl (lv_room (Nat.le_of_ble_eq_true rfl)) dX6_part_26 ⟨(Nat.le_of_ble_eq_true rfl), (Nat.le_of_ble_eq_true rfl)⟩) hP hD hS hA [3, 4] [0, 1, 2] rfl rfl (by decide) (by decide) (fun r_17 u_17 H locs hw_17 hP hD hS => ?_)
    obtain ⟨hv_17, hu_17⟩ := hw_17
    have hb_17 : u_17.1 ≤ ln := by rw [hu_17]; unfold sgF; split; exact Nat.succ_le_of_lt (by assumption : _ ∧ _ ∧ _).2.1; exact (by omega : jj + 1 ≤ ln)
    have hP : va_P G.1 vwCl [((d 1), .inl (G.2.1 0, 80, .inl s9)), ((d 5), .inl (G.2.1 0, 30, .inl l9)), ((d 6), .inl (G.2.1 0, 30, .inl f9)), ((d 0), .inr (6, [.ref (d 1), .ref (d 2), .ref (d 3), .int (nI kn), .ref (d 4), .int (nI ln), .int th, .ref (d 5), .int (nI tm), .ref (d 6), .int (nI kp), .int (nI u_17.1), .int u_17.2])), ((d 4), .inl (G.2.1 0, 60, .inl t9))] H := hP
    have hD : va_D A [((d 1), .inl (G.2.1 0, 80, .inl s9)), ((d 5), .inl (G.2.1 0, 30, .inl l9)), ((d 6), .inl (G.2.1 0, 30, .inl f9)), ((d 0), .inr (6, [.ref (d 1), .ref (d 2), .ref (d 3), .int (nI kn), .ref (d 4), .int (nI ln), .int th, .ref (d 5), .int (nI tm), .ref (d 6), .int (nI kp), .int (nI u_17.1), .int u_17.2])), ((d 4), .inl (G.2.1 0, 60, .inl t9))] := hD
    refine lv_bipush (v := 48) hx hb dX6_part_29 (by decide) ?_
    refine lv_isub hx hb dX6_part_31 ?_
    refine lv_istore_n (lv' := [(2, .int (r_17 - 48)), (0, .ref (d 0)), (1, .int 0)]) hx hb dX6_part_32 rfl hl (by decide) rfl (fun ls hl => ?_)
    refine lv_aload_n hx hb dX6_part_33 rfl (lv_at hl 1 rfl) ?_
    refine lv_bipush (v := 48) hx hb dX6_part_34 (by decide) ?_
    refine lv_iload_n hx hb dX6_part_36 rfl (lv_at hl 0 rfl) ?_
    refine lv_iconst (v := 1) hx hb dX6_part_37 (by decide) ?_
    refine lv_icmp_ne (tgt := 46) hx hb dX6_part_38 (by decide) (fun c_18 => ?_) (fun c_18 => ?_)
    · have hi1 : Iv t9 ln (fun p9 => jj < p9 ∧ psT t9 p9 = 2) u_17 := by rw [hu_17]; exact sg_1b hi0 (by rw [hv_17] at c_18; exact c_18)
      refine lv_bipush (v := 57) hx hb dX6_part_46 (by decide) ?_
      have hPc := hP.sub (ws' := [((d 0), .inr (6, [.ref (d 1), .ref (d 2), .ref (d 3), .int (nI kn), .ref (d 4), .int (nI ln), .int th, .ref (d 5), .int (nI tm), .ref (d 6), .int (nI kp), .int (nI u_17.1), .int u_17.2])), ((d 4), .inl (G.2.1 0, 60, .inl t9))]) [3, 4] rfl
      have hDc := hD.sub (ws' := [((d 0), .inr (6, [.ref (d 1), .ref (d 2), .ref (d 3), .int (nI kn), .ref (d 4), .int (nI ln), .int th, .ref (d 5), .int (nI tm), .ref (d 6), .int (nI kp), .int (nI u_17.1), .int u_17.2])), ((d 4), .inl (G.2.1 0, 60, .inl t9))]) [3, 4] (by decide) rfl
      refine z_calli (wr := [((d 1), .inl (G.2.1 0, 80, .inl s9)), ((d 5), .inl (G.2.1 0, 30, .inl l9)), ((d 6), .inl (G.2.1 0, 30, .inl f9))]) (va_runV (As := [.int 48, .int 57]) (rest := []) ⟨hx, hb, hml, hown, hts⟩ (c_X6_sign l G H.size d kn ln tm kp u_17.1 th u_17.2 hln (by omega) t9 48 57) (cwV 2 hts gX6_part_X6_sign rfl rfl rfl (by decide +kernel) ⟨(Nat.le_of_ble_eq_true rfl), (Nat.le_of_ble_eq_true rfl)⟩) (zV (ci := 6) (q0 := 0) hK hPc hDc rfl rfl) rfl rfl hl.1 rfl (lv_room (Nat.le_of_ble_eq_true rfl)) dX6_part_48 ⟨(Nat.le_of_ble_eq_true rfl), (Nat.le_of_ble_eq_true rfl)⟩) hP hD hS hA [3, 4] [0, 1, 2] rfl rfl (by decide) (by decide) (fun r_19 u_19 H locs hw_19 hP hD hS => ?_)
      obtain ⟨hv_19, hu_19⟩ := hw_19
      have hi_19 : Iv t9 ln (fun p9 => jj < p9 ∧ psT t9 p9 = 4) u_19 := by rw [hu_19]; exact sg_2 hi1
      have hb_19 : u_19.1 ≤ ln := by rcases hi_19 with z | z; exact z.2.1; exact z.2.1
      have hP : va_P G.1 vwCl [((d 1), .inl (G.2.1 0, 80, .inl s9)), ((d 5), .inl (G.2.1 0, 30, .inl l9)), ((d 6), .inl (G.2.1 0, 30, .inl f9)), ((d 0), .inr (6, [.ref (d 1), .ref (d 2), .ref (d 3), .int (nI kn), .ref (d 4), .int (nI ln), .int th, .ref (d 5), .int (nI tm), .ref (d 6), .int (nI kp), .int (nI u_19.1), .int u_19.2])), ((d 4), .inl (G.2.1 0, 60, .inl t9))] H := hP
      have hD : va_D A [((d 1), .inl (G.2.1 0, 80, .inl s9)), ((d 5), .inl (G.2.1 0, 30, .inl l9)), ((d 6), .inl (G.2.1 0, 30, .inl f9)), ((d 0), .inr (6, [.ref (d 1), .ref (d 2), .ref (d 3), .int (nI kn), .ref (d 4), .int (nI ln), .int th, .ref (d 5), .int (nI tm), .ref (d 6), .int (nI kp), .int (nI u_19.1), .int u_19.2])), ((d 4), .inl (G.2.1 0, 60, .inl t9))] := hD
      refine lv_bipush (v := 48) hx hb dX6_part_51 (by decide) ?_
      refine lv_isub hx hb dX6_part_53 ?_
      refine lv_istore_n (lv' := [(3, .int (r_19 - 48)), (2, .int (r_17 - 48)), (0, .ref (d 0)), (1, .int 0)]) hx hb dX6_part_54 rfl hl (by decide) rfl (fun ls hl => ?_)
      refine lv_aload_n hx hb dX6_part_55 rfl (lv_at hl 2 rfl) ?_
      refine lv_bipush (v := 48) hx hb dX6_part_56 (by decide) ?_
      refine lv_bipush (v := 49) hx hb dX6_part_58 (by decide) ?_
      have hPc := hP.sub (ws' := [((d 0), .inr (6, [.ref (d 1), .ref (d 2), .ref (d 3), .int (nI kn), .ref (d 4), .int (nI ln), .int th, .ref (d 5), .int (nI tm), .ref (d 6), .int (nI kp), .int (nI u_19.1), .int u_19.2])), ((d 4), .inl (G.2.1 0, 60, .inl t9))]) [3, 4] rfl
      have hDc := hD.sub (ws' := [((d 0), .inr (6, [.ref (d 1), .ref (d 2), .ref (d 3), .int (nI kn), .ref (d 4), .int (nI ln), .int th, .ref (d 5), .int (nI tm), .ref (d 6), .int (nI kp), .int (nI u_19.1), .int u_19.2])), ((d 4), .inl (G.2.1 0, 60, .inl t9))]) [3, 4] (by decide) rfl
      refine z_calli (wr := [((d 1), .inl (G.2.1 0, 80, .inl s9)), ((d 5), .inl (G.2.1 0, 30, .inl l9)), ((d 6), .inl (G.2.1 0, 30, .inl f9))]) (va_runV (As := [.int 48, .int 49]) (rest := []) ⟨hx, hb, hml, hown, hts⟩ (c_X6_sign l G H.size d kn ln tm kp u_19.1 th u_19.2 hln (by omega) t9 48 49) (cwV 2 hts gX6_part_X6_sign rfl rfl rfl (by decide +kernel) ⟨(Nat.le_of_ble_eq_true rfl), (Nat.le_of_ble_eq_true rfl)⟩) (zV (ci := 6) (q0 := 0) hK hPc hDc rfl rfl) rfl rfl hl.1 rfl (lv_room (Nat.le_of_ble_eq_true rfl)) dX6_part_60 ⟨(Nat.le_of_ble_eq_true rfl), (Nat.le_of_ble_eq_true rfl)⟩) hP hD hS hA [3, 4] [0, 1, 2] rfl rfl (by decide) (by decide) (fun r_20 u_20 H locs hw_20 hP hD hS => ?_)
      obtain ⟨hv_20, hu_20⟩ := hw_20
      have hi_20 : Iv t9 ln (fun p9 => jj < p9 ∧ psT t9 p9 = 8) u_20 := by rw [hu_20]; exact sg_4 hi_19
      have hb_20 : u_20.1 ≤ ln := by rcases hi_20 with z | z; exact z.2.1; exact z.2.1
      have hP : va_P G.1 vwCl [((d 1), .inl (G.2.1 0, 80, .inl s9)), ((d 5), .inl (G.2.1 0, 30, .inl l9)), ((d 6), .inl (G.2.1 0, 30, .inl f9)), ((d 0), .inr (6, [.ref (d 1), .ref (d 2), .ref (d 3), .int (nI kn), .ref (d 4), .int (nI ln), .int th, .ref (d 5), .int (nI tm), .ref (d 6), .int (nI kp), .int (nI u_20.1), .int u_20.2])), ((d 4), .inl (G.2.1 0, 60, .inl t9))] H := hP
      have hD : va_D A [((d 1), .inl (G.2.1 0, 80, .inl s9)), ((d 5), .inl (G.2.1 0, 30, .inl l9)), ((d 6), .inl (G.2.1 0, 30, .inl f9)), ((d 0), .inr (6, [.ref (d 1), .ref (d 2), .ref (d 3), .int (nI kn), .ref (d 4), .int (nI ln), .int th, .ref (d 5), .int (nI tm), .ref (d 6), .int (nI kp), .int (nI u_20.1), .int u_20.2])), ((d 4), .inl (G.2.1 0, 60, .inl t9))] := hD
      refine lv_bipush (v := 48) hx hb dX6_part_63 (by decide) ?_
      refine lv_isub hx hb dX6_part_65 ?_
      refine lv_istore (lv' := [(4, .int (r_20 - 48)), (3, .int (r_19 - 48)), (2, .int (r_17 - 48)), (0, .ref (d 0)), (1, .int 0)]) hx hb dX6_part_66 hl (by decide) rfl (fun ls hl => ?_)
      refine lv_iload_n hx hb dX6_part_68 rfl (lv_at hl 4 rfl) ?_
      refine lv_if_eq (tgt := 93) hx hb dX6_part_69 (by decide) (fun c_21 => ?_) (fun c_21 => ?_)
      · refine lv_goto (tgt := 264) hx hb dX6_part_93 (by decide) ?_
        have hP9 := hP.sub (ws' := [((d 0), .inr (6, [.ref (d 1), .ref (d 2), .ref (d 3), .int (nI kn), .ref (d 4), .int (nI ln), .int th, .ref (d 5), .int (nI tm), .ref (d 6), .int (nI kp), .int (nI u_20.1), .int u_20.2])), ((d 1), .inl (G.2.1 0, 80, .inl s9)), ((d 4), .inl (G.2.1 0, 60, .inl t9)), ((d 5), .inl (G.2.1 0, 30, .inl l9)), ((d 6), .inl (G.2.1 0, 30, .inl f9))]) [3, 0, 4, 1, 2] rfl
        have hD9 := hD.sub (ws' := [((d 0), .inr (6, [.ref (d 1), .ref (d 2), .ref (d 3), .int (nI kn), .ref (d 4), .int (nI ln), .int th, .ref (d 5), .int (nI tm), .ref (d 6), .int (nI kp), .int (nI u_20.1), .int u_20.2])), ((d 1), .inl (G.2.1 0, 80, .inl s9)), ((d 4), .inl (G.2.1 0, 60, .inl t9)), ((d 5), .inl (G.2.1 0, 30, .inl l9)), ((d 6), .inl (G.2.1 0, 30, .inl f9))]) [3, 0, 4, 1, 2] (by decide) rfl
        exact z_vret hx hb hr hlocks ((u_20.1, u_20.2), tm, l9) hP9 hD9 hS (Nat.le_of_ble_eq_true rfl) (Nat.le_of_ble_eq_true rfl) dX6_part_264 ⟨hi_20.elim (fun z => Or.inl ⟨z.1, z.2.1, z.2.2.1, Or.inl z.2.2.2⟩) (fun z => Or.inr z), htm⟩
      · exact absurd rfl c_21
    · have hi1 : Iv t9 ln (fun p9 => jj < p9 ∧ psT t9 p9 = 3) u_17 := by rw [hu_17]; exact sg_1a hi0 (by rw [hv_17] at c_18; exact c_18)
      refine lv_bipush (v := 53) hx hb dX6_part_41 (by decide) ?_
      refine lv_goto (tgt := 48) hx hb dX6_part_43 (by decide) ?_
      have hPc := hP.sub (ws' := [((d 0), .inr (6, [.ref (d 1), .ref (d 2), .ref (d 3), .int (nI kn), .ref (d 4), .int (nI ln), .int th, .ref (d 5), .int (nI tm), .ref (d 6), .int (nI kp), .int (nI u_17.1), .int u_17.2])), ((d 4), .inl (G.2.1 0, 60, .inl t9))]) [3, 4] rfl
      have hDc := hD.sub (ws' := [((d 0), .inr (6, [.ref (d 1), .ref (d 2), .ref (d 3), .int (nI kn), .ref (d 4), .int (nI ln), .int th, .ref (d 5), .int (nI tm), .ref (d 6), .int (nI kp), .int (nI u_17.1), .int u_17.2])), ((d 4), .inl (G.2.1 0, 60, .inl t9))]) [3, 4] (by decide) rfl
      refine z_calli (wr := [((d 1), .inl (G.2.1 0, 80, .inl s9)), ((d 5), .inl (G.2.1 0, 30, .inl l9)), ((d 6), .inl (G.2.1 0, 30, .inl f9))]) (va_runV (As := [.int 48, .int 53]) (rest := []) ⟨hx, hb, hml, hown, hts⟩ (c_X6_sign l G H.size d kn ln tm kp u_17.1 th u_17.2 hln (by omega) t9 48 53) (cwV 2 hts gX6_part_X6_sign rfl rfl rfl (by decide +kernel) ⟨(Nat.le_of_ble_eq_true rfl), (Nat.le_of_ble_eq_true rfl)⟩) (zV (ci := 6) (q0 := 0) hK hPc hDc rfl rfl) rfl rfl hl.1 rfl (lv_room (Nat.le_of_ble_eq_true rfl)) dX6_part_48 ⟨(Nat.le_of_ble_eq_true rfl), (Nat.le_of_ble_eq_true rfl)⟩) hP hD hS hA [3, 4] [0, 1, 2] rfl rfl (by decide) (by decide) (fun r_22 u_22 H locs hw_22 hP hD hS => ?_)
      obtain ⟨hv_22, hu_22⟩ := hw_22
      have hi_22 : Iv t9 ln (fun p9 => jj < p9 ∧ psT t9 p9 = 4) u_22 := by rw [hu_22]; exact sg_3 hi1
      have hb_22 : u_22.1 ≤ ln := by rcases hi_22 with z | z; exact z.2.1; exact z.2.1
      have hP : va_P G.1 vwCl [((d 1), .inl (G.2.1 0, 80, .inl s9)), ((d 5), .inl (G.2.1 0, 30, .inl l9)), ((d 6), .inl (G.2.1 0, 30, .inl f9)), ((d 0), .inr (6, [.ref (d 1), .ref (d 2), .ref (d 3), .int (nI kn), .ref (d 4), .int (nI ln), .int th, .ref (d 5), .int (nI tm), .ref (d 6), .int (nI kp), .int (nI u_22.1), .int u_22.2])), ((d 4), .inl (G.2.1 0, 60, .inl t9))] H := hP
      have hD : va_D A [((d 1), .inl (G.2.1 0, 80, .inl s9)), ((d 5), .inl (G.2.1 0, 30, .inl l9)), ((d 6), .inl (G.2.1 0, 30, .inl f9)), ((d 0), .inr (6, [.ref (d 1), .ref (d 2), .ref (d 3), .int (nI kn), .ref (d 4), .int (nI ln), .int th, .ref (d 5), .int (nI tm), .ref (d 6), .int (nI kp), .int (nI u_22.1), .int u_22.2])), ((d 4), .inl (G.2.1 0, 60, .inl t9))] := hD
      refine lv_bipush (v := 48) hx hb dX6_part_51 (by decide) ?_
      refine lv_isub hx hb dX6_part_53 ?_
      refine lv_istore_n (lv' := [(3, .int (r_22 - 48)), (2, .int (r_17 - 48)), (0, .ref (d 0)), (1, .int 0)]) hx hb dX6_part_54 rfl hl (by decide) rfl (fun ls hl => ?_)
      refine lv_aload_n hx hb dX6_part_55 rfl (lv_at hl 2 rfl) ?_
      refine lv_bipush (v := 48) hx hb dX6_part_56 (by decide) ?_
      refine lv_bipush (v := 49) hx hb dX6_part_58 (by decide) ?_
      have hPc := hP.sub (ws' := [((d 0), .inr (6, [.ref (d 1), .ref (d 2), .ref (d 3), .int (nI kn), .ref (d 4), .int (nI ln), .int th, .ref (d 5), .int (nI tm), .ref (d 6), .int (nI kp), .int (nI u_22.1), .int u_22.2])), ((d 4), .inl (G.2.1 0, 60, .inl t9))]) [3, 4] rfl
      have hDc := hD.sub (ws' := [((d 0), .inr (6, [.ref (d 1), .ref (d 2), .ref (d 3), .int (nI kn), .ref (d 4), .int (nI ln), .int th, .ref (d 5), .int (nI tm), .ref (d 6), .int (nI kp), .int (nI u_22.1), .int u_22.2])), ((d 4), .inl (G.2.1 0, 60, .inl t9))]) [3, 4] (by decide) rfl
      refine z_calli (wr := [((d 1), .inl (G.2.1 0, 80, .inl s9)), ((d 5), .inl (G.2.1 0, 30, .inl l9)), ((d 6), .inl (G.2.1 0, 30, .inl f9))]) (va_runV (As := [.int 48, .int 49]) (rest := []) ⟨hx, hb, hml, hown, hts⟩ (c_X6_sign l G H.size d kn ln tm kp u_22.1 th u_22.2 hln (by omega) t9 48 49) (cwV 2 hts gX6_part_X6_sign rfl rfl rfl (by decide +kernel) ⟨(Nat.le_of_ble_eq_true rfl), (Nat.le_of_ble_eq_true rfl)⟩) (zV (ci := 6) (q0 := 0) hK hPc hDc rfl rfl) rfl rfl hl.1 rfl (lv_room (Nat.le_of_ble_eq_true rfl)) dX6_part_60 ⟨(Nat.le_of_ble_eq_true rfl), (Nat.le_of_ble_eq_true rfl)⟩) hP hD hS hA [3, 4] [0, 1, 2] rfl rfl (by decide) (by decide) (fun r_23 u_23 H locs hw_23 hP hD hS => ?_)
      obtain ⟨hv_23, hu_23⟩ := hw_23
      have hi_23 : Iv t9 ln (fun p9 => jj < p9 ∧ psT t9 p9 = 8) u_23 := by rw [hu_23]; exact sg_4 hi_22
      have hb_23 : u_23.1 ≤ ln := by rcases hi_23 with z | z; exact z.2.1; exact z.2.1
      have hP : va_P G.1 vwCl [((d 1), .inl (G.2.1 0, 80, .inl s9)), ((d 5), .inl (G.2.1 0, 30, .inl l9)), ((d 6), .inl (G.2.1 0, 30, .inl f9)), ((d 0), .inr (6, [.ref (d 1), .ref (d 2), .ref (d 3), .int (nI kn), .ref (d 4), .int (nI ln), .int th, .ref (d 5), .int (nI tm), .ref (d 6), .int (nI kp), .int (nI u_23.1), .int u_23.2])), ((d 4), .inl (G.2.1 0, 60, .inl t9))] H := hP
      have hD : va_D A [((d 1), .inl (G.2.1 0, 80, .inl s9)), ((d 5), .inl (G.2.1 0, 30, .inl l9)), ((d 6), .inl (G.2.1 0, 30, .inl f9)), ((d 0), .inr (6, [.ref (d 1), .ref (d 2), .ref (d 3), .int (nI kn), .ref (d 4), .int (nI ln), .int th, .ref (d 5), .int (nI tm), .ref (d 6), .int (nI kp), .int (nI u_23.1), .int u_23.2])), ((d 4), .inl (G.2.1 0, 60, .inl t9))] := hD
      refine lv_bipush (v := 48) hx hb dX6_part_63 (by decide) ?_
      refine lv_isub hx hb dX6_part_65 ?_
      refine lv_istore (lv' := [(4, .int (r_23 - 48)), (3, .int (r_22 - 48)), (2, .int (r_17 - 48)), (0, .ref (d 0)), (1, .int 0)]) hx hb dX6_part_66 hl (by decide) rfl (fun ls hl => ?_)
      refine lv_iload_n hx hb dX6_part_68 rfl (lv_at hl 4 rfl) ?_
      refine lv_if_eq (tgt := 93) hx hb dX6_part_69 (by decide) (fun c_24 => ?_) (fun c_24 => ?_)
      · refine lv_goto (tgt := 264) hx hb dX6_part_93 (by decide) ?_
        have hP9 := hP.sub (ws' := [((d 0), .inr (6, [.ref (d 1), .ref (d 2), .ref (d 3), .int (nI kn), .ref (d 4), .int (nI ln), .int th, .ref (d 5), .int (nI tm), .ref (d 6), .int (nI kp), .int (nI u_23.1), .int u_23.2])), ((d 1), .inl (G.2.1 0, 80, .inl s9)), ((d 4), .inl (G.2.1 0, 60, .inl t9)), ((d 5), .inl (G.2.1 0, 30, .inl l9)), ((d 6), .inl (G.2.1 0, 30, .inl f9))]) [3, 0, 4, 1, 2] rfl
        have hD9 := hD.sub (ws' := [((d 0), .inr (6, [.ref (d 1), .ref (d 2), .ref (d 3), .int (nI kn), .ref (d 4), .int (nI ln), .int th, .ref (d 5), .int (nI tm), .ref (d 6), .int (nI kp), .int (nI u_23.1), .int u_23.2])), ((d 1), .inl (G.2.1 0, 80, .inl s9)), ((d 4), .inl (G.2.1 0, 60, .inl t9)), ((d 5), .inl (G.2.1 0, 30, .inl l9)), ((d 6), .inl (G.2.1 0, 30, .inl f9))]) [3, 0, 4, 1, 2] (by decide) rfl
        exact z_vret hx hb hr hlocks ((u_23.1, u_23.2), tm, l9) hP9 hD9 hS (Nat.le_of_ble_eq_true rfl) (Nat.le_of_ble_eq_true rfl) dX6_part_264 ⟨hi_23.elim (fun z => Or.inl ⟨z.1, z.2.1, z.2.2.1, Or.inl z.2.2.2⟩) (fun z => Or.inr z), htm⟩
      · exact absurd rfl c_24
end
