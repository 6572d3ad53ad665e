section
set_option maxHeartbeats 1000000 in
set_option maxRecDepth 100000 in
theorem cx_X5_frame (l : Launch) (hl0 : l.stackTraces = false) (G : zG) (sz : Nat) (a b : Nat → Nat) (x y1 y2 : Nat) (x9 y9 z9 w9 : Int32) (hbad : ¬ ((0 ≤ x9 ∧ x9 ≤ 7) ∧ (0 ≤ y9 ∧ y9 ≤ 15) ∧ (0 ≤ z9 ∧ z9 ≤ 1))) : zMx zNi l yX5_frame wsX5_frame ({ frames := 8, cells := 1, slots := 6, locals := 124 } : Room) [.ref x, .int x9, .int y9, .int z9, .int w9] G [(x, .inr (5, [.ref (a 0), .ref y1, .ref y2, .ref (b 0)]))] "java/lang/IllegalArgumentException" sz := by
  refine zMx_of (cc := cX5_frame) (maxL := 5) (ret := (some .int)) (by decide) rfl (Nat.le_of_ble_eq_true rfl) ?_
  intro p e s m args below meth c A ls hx hb hr hml hts hown hlocks hnm hK hP hD hAe hS hA hl hsz hZ hte
  have hown : s.vm.findClass RX5 = some m.cls := hown
  have hP : va_P G.1 vwCl [(x, .inr (5, [.ref (a 0), .ref y1, .ref y2, .ref (b 0)]))] s.heap := hP
  have hD : va_D A [(x, .inr (5, [.ref (a 0), .ref y1, .ref y2, .ref (b 0)]))] := hD
  have hl : lv_has ls 5 [(0, .ref x), (1, .int x9), (2, .int y9), (3, .int z9), (4, .int w9)] := hl
  refine lv_iload_n hx hb dX5_frame_0 rfl (lv_at hl 1 rfl) ?_
  refine lv_iload_n hx hb dX5_frame_1 rfl (lv_at hl 2 rfl) ?_
  refine lv_iload_n hx hb dX5_frame_2 rfl (lv_at hl 3 rfl) ?_
  have hPc := hP.sub (ws' := []) [] rfl
  have hDc := hD.sub (ws' := []) [] (by decide) rfl
  exact z_outv (vx_runS (As := [.int x9, .int y9, .int z9]) (rest := []) ⟨hx, hb, hml, hown, hts⟩ (cx_X5_checkFrame l hl0 G s.heap.size x9 y9 z9 hbad) (va_cwS 3 hts gX5_frame_X5_checkFrame rfl rfl rfl (by decide +kernel) ⟨(Nat.le_of_ble_eq_true rfl), (Nat.le_of_ble_eq_true rfl)⟩) (zSx hK hPc hDc hS hZ hA) rfl rfl hl.1 rfl (lv_room (Nat.le_of_ble_eq_true rfl)) dX5_frame_3 ⟨(Nat.le_of_ble_eq_true rfl), (Nat.le_of_ble_eq_true rfl)⟩) hP hD hS hA hte hlocks [] rfl (Nat.le_of_ble_eq_true rfl) (Nat.le_of_ble_eq_true rfl)
set_option maxHeartbeats 1000000 in
set_option maxRecDepth 100000 in
theorem cx_X5_frame2 (l : Launch) (hl0 : l.stackTraces = false) (G : zG) (sz : Nat) (a b : Nat → Nat) (x y1 y2 : Nat) (x9 y9 z9 w9 : Int32) (hok : (0 ≤ x9 ∧ x9 ≤ 7) ∧ (0 ≤ y9 ∧ y9 ≤ 15) ∧ (0 ≤ z9 ∧ z9 ≤ 1)) (hbad : ¬ (1 ≤ w9 ∧ w9 ≤ 10)) : zMx zNi l yX5_frame wsX5_frame ({ frames := 8, cells := 1, slots := 6, locals := 122 } : Room) [.ref x, .int x9, .int y9, .int z9, .int w9] G [(x, .inr (5, [.ref (a 0), .ref y1, .ref y2, .ref (b 0)]))] "java/lang/IllegalArgumentException" sz := by
  refine zMx_of (cc := cX5_frame) (maxL := 5) (ret := (some .int)) (by decide) rfl (Nat.le_of_ble_eq_true rfl) ?_
  intro p e s m args below meth c A ls hx hb hr hml hts hown hlocks hnm hK hP hD hAe hS hA hl hsz hZ hte
  have hown : s.vm.findClass RX5 = some m.cls := hown
  have hP : va_P G.1 vwCl [(x, .inr (5, [.ref (a 0), .ref y1, .ref y2, .ref (b 0)]))] s.heap := hP
  have hD : va_D A [(x, .inr (5, [.ref (a 0), .ref y1, .ref y2, .ref (b 0)]))] := hD
  have hl : lv_has ls 5 [(0, .ref x), (1, .int x9), (2, .int y9), (3, .int z9), (4, .int w9)] := hl
  refine lv_iload_n hx hb dX5_frame_0 rfl (lv_at hl 1 rfl) ?_
  refine lv_iload_n hx hb dX5_frame_1 rfl (lv_at hl 2 rfl) ?_
  refine lv_iload_n hx hb dX5_frame_2 rfl (lv_at hl 3 rfl) ?_
  have hPc := hP.sub (ws' := []) [] rfl
  have hDc := hD.sub (ws' := []) [] (by decide) rfl
  refine z_callv (wr := [(x, .inr (5, [.ref (a 0), .ref y1, .ref y2, .ref (b 0)]))]) (va_runS (As := [.int x9, .int y9, .int z9]) (rest := []) ⟨hx, hb, hml, hown, hts⟩ (c_X5_checkFrame l G s.heap.size x9 y9 z9 hok) (va_cwS 3 hts gX5_frame_X5_checkFrame rfl rfl rfl (by decide +kernel) ⟨(Nat.le_of_ble_eq_true rfl), (Nat.le_of_ble_eq_true rfl)⟩) (zS hK hPc hDc) rfl rfl hl.1 rfl (lv_room (Nat.le_of_ble_eq_true rfl)) dX5_frame_3 ⟨(Nat.le_of_ble_eq_true rfl), (Nat.le_of_ble_eq_true rfl)⟩) hP hD hS hA [] [0] rfl rfl (by decide) (by decide) (fun u_1 H locs hw_1 hP hD hS => ?_)
  have hP : va_P G.1 vwCl [(x, .inr (5, [.ref (a 0), .ref y1, .ref y2, .ref (b 0)]))] H := hP
  have hD : va_D A [(x, .inr (5, [.ref (a 0), .ref y1, .ref y2, .ref (b 0)]))] := hD
  refine lv_iload hx hb dX5_frame_6 (lv_at hl 4 rfl) ?_
  have hPc := hP.sub (ws' := []) [] rfl
  have hDc := hD.sub (ws' := []) [] (by decide) rfl
  exact z_outv (vx_runS (As := [.int w9]) (rest := []) ⟨hx, hb, hml, hown, hts⟩ (cx_X5_checkStrength l hl0 G H.size w9 hbad) (va_cwS 1 hts gX5_frame_X5_checkStrength rfl rfl rfl (by decide +kernel) ⟨(Nat.le_of_ble_eq_true rfl), (Nat.le_of_ble_eq_true rfl)⟩) (zSx hK hPc hDc hS hZ hA) rfl rfl hl.1 rfl (lv_room (Nat.le_of_ble_eq_true rfl)) dX5_frame_8 ⟨(Nat.le_of_ble_eq_true rfl), (Nat.le_of_ble_eq_true rfl)⟩) hP hD hS hA hte hlocks [] rfl (Nat.le_of_ble_eq_true rfl) (Nat.le_of_ble_eq_true rfl)
set_option maxHeartbeats 1000000 in
set_option maxRecDepth 100000 in
theorem cx_X5_ifFrame (l : Launch) (hl0 : l.stackTraces = false) (G : zG) (sz : Nat) (a b : Nat → Nat) (x y1 y2 : Nat) (x9 y9 z9 w9 : Int32) (hbad : ¬ ((0 ≤ x9 ∧ x9 ≤ 7) ∧ (0 ≤ y9 ∧ y9 ≤ 15) ∧ (0 ≤ z9 ∧ z9 ≤ 1))) : zMx zNi l yX5_ifFrame wsX5_ifFrame ({ frames := 8, cells := 1, slots := 6, locals := 124 } : Room) [.ref x, .int x9, .int y9, .int z9, .int w9] G [(x, .inr (5, [.ref (a 0), .ref y1, .ref y2, .ref (b 0)]))] "java/lang/IllegalArgumentException" sz := by
  refine zMx_of (cc := cX5_ifFrame) (maxL := 5) (ret := (some .int)) (by decide) rfl (Nat.le_of_ble_eq_true rfl) ?_
  intro p e s m args below meth c A ls hx hb hr hml hts hown hlocks hnm hK hP hD hAe hS hA hl hsz hZ hte
  have hown : s.vm.findClass RX5 = some m.cls := hown
  have hP : va_P G.1 vwCl [(x, .inr (5, [.ref (a 0), .ref y1, .ref y2, .ref (b 0)]))] s.heap := hP
  have hD : va_D A [(x, .inr (5, [.ref (a 0), .ref y1, .ref y2, .ref (b 0)]))] := hD
  have hl : lv_has ls 5 [(0, .ref x), (1, .int x9), (2, .int y9), (3, .int z9), (4, .int w9)] := hl
  refine lv_iload_n hx hb dX5_ifFrame_0 rfl (lv_at hl 1 rfl) ?_
  refine lv_iload_n hx hb dX5_ifFrame_1 rfl (lv_at hl 2 rfl) ?_
  refine lv_iload_n hx hb dX5_ifFrame_2 rfl (lv_at hl 3 rfl) ?_
  have hPc := hP.sub (ws' := []) [] rfl
  have hDc := hD.sub (ws' := []) [] (by decide) rfl
  exact z_outv (vx_runS (As := [.int x9, .int y9, .int z9]) (rest := []) ⟨hx, hb, hml, hown, hts⟩ (cx_X5_checkFrame l hl0 G s.heap.size x9 y9 z9 hbad) (va_cwS 3 hts gX5_ifFrame_X5_checkFrame rfl rfl rfl (by decide +kernel) ⟨(Nat.le_of_ble_eq_true rfl), (Nat.le_of_ble_eq_true rfl)⟩) (zSx hK hPc hDc hS hZ hA) rfl rfl hl.1 rfl (lv_room (Nat.le_of_ble_eq_true rfl)) dX5_ifFrame_3 ⟨(Nat.le_of_ble_eq_true rfl), (Nat.le_of_ble_eq_true rfl)⟩) hP hD hS hA hte hlocks [] rfl (Nat.le_of_ble_eq_true rfl) (Nat.le_of_ble_eq_true rfl)
set_option maxHeartbeats 1000000 in
set_option maxRecDepth 100000 in
theorem cx_X5_ifFrame2 (l : Launch) (hl0 : l.stackTraces = false) (G : zG) (sz : Nat) (a b : Nat → Nat) (x y1 y2 : Nat) (x9 y9 z9 w9 : Int32) (hok : (0 ≤ x9 ∧ x9 ≤ 7) ∧ (0 ≤ y9 ∧ y9 ≤ 15) ∧ (0 ≤ z9 ∧ z9 ≤ 1)) (hbad : ¬ (1 ≤ w9 ∧ w9 ≤ 10)) : zMx zNi l yX5_ifFrame wsX5_ifFrame ({ frames := 8, cells := 1, slots := 6, locals := 122 } : Room) [.ref x, .int x9, .int y9, .int z9, .int w9] G [(x, .inr (5, [.ref (a 0), .ref y1, .ref y2, .ref (b 0)]))] "java/lang/IllegalArgumentException" sz := by
  refine zMx_of (cc := cX5_ifFrame) (maxL := 5) (ret := (some .int)) (by decide) rfl (Nat.le_of_ble_eq_true rfl) ?_
  intro p e s m args below meth c A ls hx hb hr hml hts hown hlocks hnm hK hP hD hAe hS hA hl hsz hZ hte
  have hown : s.vm.findClass RX5 = some m.cls := hown
  have hP : va_P G.1 vwCl [(x, .inr (5, [.ref (a 0), .ref y1, .ref y2, .ref (b 0)]))] s.heap := hP
  have hD : va_D A [(x, .inr (5, [.ref (a 0), .ref y1, .ref y2, .ref (b 0)]))] := hD
  have hl : lv_has ls 5 [(0, .ref x), (1, .int x9), (2, .int y9), (3, .int z9), (4, .int w9)] := hl
  refine lv_iload_n hx hb dX5_ifFrame_0 rfl (lv_at hl 1 rfl) ?_
  refine lv_iload_n hx hb dX5_ifFrame_1 rfl (lv_at hl 2 rfl) ?_
  refine lv_iload_n hx hb dX5_ifFrame_2 rfl (lv_at hl 3 rfl) ?_
  have hPc := hP.sub (ws' := []) [] rfl
  have hDc := hD.sub (ws' := []) [] (by decide) rfl
  refine z_callv (wr := [(x, .inr (5, [.ref (a 0), .ref y1, .ref y2, .ref (b 0)]))]) (va_runS (As := [.int x9, .int y9, .int z9]) (rest := []) ⟨hx, hb, hml, hown, hts⟩ (c_X5_checkFrame l G s.heap.size x9 y9 z9 hok) (va_cwS 3 hts gX5_ifFrame_X5_checkFrame rfl rfl rfl (by decide +kernel) ⟨(Nat.le_of_ble_eq_true rfl), (Nat.le_of_ble_eq_true rfl)⟩) (zS hK hPc hDc) rfl rfl hl.1 rfl (lv_room (Nat.le_of_ble_eq_true rfl)) dX5_ifFrame_3 ⟨(Nat.le_of_ble_eq_true rfl), (Nat.le_of_ble_eq_true rfl)⟩) hP hD hS hA [] [0] rfl rfl (by decide) (by decide) (fun u_1 H locs hw_1 hP hD hS => ?_)
  have hP : va_P G.1 vwCl [(x, .inr (5, [.ref (a 0), .ref y1, .ref y2, .ref (b 0)]))] H := hP
  have hD : va_D A [(x, .inr (5, [.ref (a 0), .ref y1, .ref y2, .ref (b 0)]))] := hD
  refine lv_iload hx hb dX5_ifFrame_6 (lv_at hl 4 rfl) ?_
  have hPc := hP.sub (ws' := []) [] rfl
  have hDc := hD.sub (ws' := []) [] (by decide) rfl
  exact z_outv (vx_runS (As := [.int w9]) (rest := []) ⟨hx, hb, hml, hown, hts⟩ (cx_X5_checkStrength l hl0 G H.size w9 hbad) (va_cwS 1 hts gX5_ifFrame_X5_checkStrength rfl rfl rfl (by decide +kernel) ⟨(Nat.le_of_ble_eq_true rfl), (Nat.le_of_ble_eq_true rfl)⟩) (zSx hK hPc hDc hS hZ hA) rfl rfl hl.1 rfl (lv_room (Nat.le_of_ble_eq_true rfl)) dX5_ifFrame_8 ⟨(Nat.le_of_ble_eq_true rfl), (Nat.le_of_ble_eq_true rfl)⟩) hP hD hS hA hte hlocks [] rfl (Nat.le_of_ble_eq_true rfl) (Nat.le_of_ble_eq_true rfl)
set_option maxHeartbeats 1000000 in
set_option maxRecDepth 100000 in
theorem cx_X5_bit (l : Launch) (hl0 : l.stackTraces = false) (G : zG) (sz : Nat) (a b : Nat → Nat) (x y1 y2 : Nat) (x9 y9 z9 w9 : Int32) (hbad : ¬ ((0 ≤ x9 ∧ x9 ≤ 7) ∧ (0 ≤ y9 ∧ y9 ≤ 15) ∧ (0 ≤ z9 ∧ z9 ≤ 1))) : zMx zNi l yX5_bit wsX5_bit ({ frames := 8, cells := 1, slots := 6, locals := 124 } : Room) [.ref x, .int x9, .int y9, .int z9, .int w9] G [(x, .inr (5, [.ref (a 0), .ref y1, .ref y2, .ref (b 0)]))] "java/lang/IllegalArgumentException" sz := by
  refine zMx_of (cc := cX5_bit) (maxL := 5) (ret := (some .int)) (by decide) rfl (Nat.le_of_ble_eq_true rfl) ?_
  intro p e s m args below meth c A ls hx hb hr hml hts hown hlocks hnm hK hP hD hAe hS hA hl hsz hZ hte
  have hown : s.vm.findClass RX5 = some m.cls := hown
  have hP : va_P G.1 vwCl [(x, .inr (5, [.ref (a 0), .ref y1, .ref y2, .ref (b 0)]))] s.heap := hP
  have hD : va_D A [(x, .inr (5, [.ref (a 0), .ref y1, .ref y2, .ref (b 0)]))] := hD
  have hl : lv_has ls 5 [(0, .ref x), (1, .int x9), (2, .int y9), (3, .int z9), (4, .int w9)] := hl
  refine lv_iload_n hx hb dX5_bit_0 rfl (lv_at hl 1 rfl) ?_
  refine lv_iload_n hx hb dX5_bit_1 rfl (lv_at hl 2 rfl) ?_
  refine lv_iload_n hx hb dX5_bit_2 rfl (lv_at hl 3 rfl) ?_
  have hPc := hP.sub (ws' := []) [] rfl
  have hDc := hD.sub (ws' := []) [] (by decide) rfl
  exact z_outv (vx_runS (As := [.int x9, .int y9, .int z9]) (rest := []) ⟨hx, hb, hml, hown, hts⟩ (cx_X5_checkFrame l hl0 G s.heap.size x9 y9 z9 hbad) (va_cwS 3 hts gX5_bit_X5_checkFrame rfl rfl rfl (by decide +kernel) ⟨(Nat.le_of_ble_eq_true rfl), (Nat.le_of_ble_eq_true rfl)⟩) (zSx hK hPc hDc hS hZ hA) rfl rfl hl.1 rfl (lv_room (Nat.le_of_ble_eq_true rfl)) dX5_bit_3 ⟨(Nat.le_of_ble_eq_true rfl), (Nat.le_of_ble_eq_true rfl)⟩) hP hD hS hA hte hlocks [] rfl (Nat.le_of_ble_eq_true rfl) (Nat.le_of_ble_eq_true rfl)
set_option maxHeartbeats 1000000 in
set_option maxRecDepth 100000 in
theorem cx_X5_bit2 (l : Launch) (hl0 : l.stackTraces = false) (G : zG) (sz : Nat) (a b : Nat → Nat) (x y1 y2 : Nat) (x9 y9 z9 w9 : Int32) (hok : (0 ≤ x9 ∧ x9 ≤ 7) ∧ (0 ≤ y9 ∧ y9 ≤ 15) ∧ (0 ≤ z9 ∧ z9 ≤ 1)) (hbad : ¬ (0 ≤ w9 ∧ w9 ≤ 8)) : zMx zNi l yX5_bit wsX5_bit ({ frames := 7, cells := 1, slots := 6, locals := 102 } : Room) [.ref x, .int x9, .int y9, .int z9, .int w9] G [(x, .inr (5, [.ref (a 0), .ref y1, .ref y2, .ref (b 0)]))] "java/lang/IllegalArgumentException" sz := by
  refine zMx_of (cc := cX5_bit) (maxL := 5) (ret := (some .int)) (by decide) rfl (Nat.le_of_ble_eq_true rfl) ?_
  intro p e s m args below meth c A ls hx hb hr hml hts hown hlocks hnm hK hP hD hAe hS hA hl hsz hZ hte
  have hown : s.vm.findClass RX5 = some m.cls := hown
  have hP : va_P G.1 vwCl [(x, .inr (5, [.ref (a 0), .ref y1, .ref y2, .ref (b 0)]))] s.heap := hP
  have hD : va_D A [(x, .inr (5, [.ref (a 0), .ref y1, .ref y2, .ref (b 0)]))] := hD
  have hl : lv_has ls 5 [(0, .ref x), (1, .int x9), (2, .int y9), (3, .int z9), (4, .int w9)] := hl
  refine lv_iload_n hx hb dX5_bit_0 rfl (lv_at hl 1 rfl) ?_
  refine lv_iload_n hx hb dX5_bit_1 rfl (lv_at hl 2 rfl) ?_
  refine lv_iload_n hx hb dX5_bit_2 rfl (lv_at hl 3 rfl) ?_
  have hPc := hP.sub (ws' := []) [] rfl
  have hDc := hD.sub (ws' := []) [] (by decide) rfl
  refine z_callv (wr := [(x, .inr (5, [.ref (a 0), .ref y1, .ref y2, .ref (b 0)]))]) (va_runS (As := [.int x9, .int y9, .int z9]) (rest := []) ⟨hx, hb, hml, hown, hts⟩ (c_X5_checkFrame l G s.heap.size x9 y9 z9 hok) (va_cwS 3 hts gX5_bit_X5_checkFrame rfl rfl rfl (by decide +kernel) ⟨(Nat.le_of_ble_eq_true rfl), (Nat.le_of_ble_eq_true rfl)⟩) (zS hK hPc hDc) rfl rfl hl.1 rfl (lv_room (Nat.le_of_ble_eq_true rfl)) dX5_bit_3 ⟨(Nat.le_of_ble_eq_true rfl), (Nat.le_of_ble_eq_true rfl)⟩) hP hD hS hA [] [0] rfl rfl (by decide) (by decide) (fun u_1 H locs hw_1 hP hD hS => ?_)
  have hP : va_P G.1 vwCl [(x, .inr (5, [.ref (a 0), .ref y1, .ref y2, .ref (b 0)]))] H := hP
  have hD : va_D A [(x, .inr (5, [.ref (a 0), .ref y1, .ref y2, .ref (b 0)]))] := hD
  refine lv_iload hx hb dX5_bit_6 (lv_at hl 4 rfl) ?_
  refine lv_iconst (v := 0) hx hb dX5_bit_8 (by decide) ?_
  refine lv_bipush (v := 8) hx hb dX5_bit_9 (by decide) ?_
  have hPc := hP.sub (ws' := []) [] rfl
  have hDc := hD.sub (ws' := []) [] (by decide) rfl
  refine z_calli (wr := [(x, .inr (5, [.ref (a 0), .ref y1, .ref y2, .ref (b 0)]))]) (va_runS (As := [.int w9, .int 0, .int 8]) (rest := []) ⟨hx, hb, hml, hown, hts⟩ (c_X5_isWithin l G H.size w9 0 8) (va_cwS 3 hts gX5_bit_X5_isWithin rfl rfl rfl (by decide +kernel) ⟨(Nat.le_of_ble_eq_true rfl), (Nat.le_of_ble_eq_true rfl)⟩) (zS hK hPc hDc) rfl rfl hl.1 rfl (lv_room (Nat.le_of_ble_eq_true rfl)) dX5_bit_11 ⟨(Nat.le_of_ble_eq_true rfl), (Nat.le_of_ble_eq_true rfl)⟩) hP hD hS hA [] [0] rfl rfl (by decide) (by decide) (fun r_2 u_2 H locs hw_2 hP hD hS => ?_)
  subst hw_2
  have hP : va_P G.1 vwCl [(x, .inr (5, [.ref (a 0), .ref y1, .ref y2, .ref (b 0)]))] H := hP
  have hD : va_D A [(x, .inr (5, [.ref (a 0), .ref y1, .ref y2, .ref (b 0)]))] := hD
  refine z_top (if_neg hbad) ?_
  have hPc := hP.sub (ws' := []) [] rfl
  have hDc := hD.sub (ws' := []) [] (by decide) rfl
  exact z_outv (vx_runS (As := [.int 0]) (rest := []) ⟨hx, hb, hml, hown, hts⟩ (cx_X5_checkArgument l hl0 G H.size) (va_cwS 1 hts gX5_bit_X5_checkArgument rfl rfl rfl (by decide +kernel) ⟨(Nat.le_of_ble_eq_true rfl), (Nat.le_of_ble_eq_true rfl)⟩) (zSx hK hPc hDc hS hZ hA) rfl rfl hl.1 rfl (lv_room (Nat.le_of_ble_eq_true rfl)) dX5_bit_14 ⟨(Nat.le_of_ble_eq_true rfl), (Nat.le_of_ble_eq_true rfl)⟩) hP hD hS hA hte hlocks [] rfl (Nat.le_of_ble_eq_true rfl) (Nat.le_of_ble_eq_true rfl)
set_option maxHeartbeats 1000000 in
set_option maxRecDepth 100000 in
theorem cx_X5_repeat (l : Launch) (hl0 : l.stackTraces = false) (G : zG) (sz : Nat) (a b : Nat → Nat) (x y1 y2 : Nat) (x9 : Int32) (hbad : ¬ (1 ≤ x9 ∧ x9 ≤ 10)) : zMx zNi l yX5_repeat wsX5_repeat ({ frames := 8, cells := 1, slots := 6, locals := 122 } : Room) [.ref x, .int x9] G [(x, .inr (5, [.ref (a 0), .ref y1, .ref y2, .ref (b 0)]))] "java/lang/IllegalArgumentException" sz := by
  refine zMx_of (cc := cX5_repeat) (maxL := 2) (ret := (some .int)) (by decide) rfl (Nat.le_of_ble_eq_true rfl) ?_
  intro p e s m args below meth c A ls hx hb hr hml hts hown hlocks hnm hK hP hD hAe hS hA hl hsz hZ hte
  have hown : s.vm.findClass RX5 = some m.cls := hown
  have hP : va_P G.1 vwCl [(x, .inr (5, [.ref (a 0), .ref y1, .ref y2, .ref (b 0)]))] s.heap := hP
  have hD : va_D A [(x, .inr (5, [.ref (a 0), .ref y1, .ref y2, .ref (b 0)]))] := hD
  have hl : lv_has ls 2 [(0, .ref x), (1, .int x9)] := hl
  refine lv_iload_n hx hb dX5_repeat_0 rfl (lv_at hl 1 rfl) ?_
  have hPc := hP.sub (ws' := []) [] rfl
  have hDc := hD.sub (ws' := []) [] (by decide) rfl
  exact z_outv (vx_runS (As := [.int x9]) (rest := []) ⟨hx, hb, hml, hown, hts⟩ (cx_X5_checkStrength l hl0 G s.heap.size x9 hbad) (va_cwS 1 hts gX5_repeat_X5_checkStrength rfl rfl rfl (by decide +kernel) ⟨(Nat.le_of_ble_eq_true rfl), (Nat.le_of_ble_eq_true rfl)⟩) (zSx hK hPc hDc hS hZ hA) rfl rfl hl.1 rfl (lv_room (Nat.le_of_ble_eq_true rfl)) dX5_repeat_1 ⟨(Nat.le_of_ble_eq_true rfl), (Nat.le_of_ble_eq_true rfl)⟩) hP hD hS hA hte hlocks [] rfl (Nat.le_of_ble_eq_true rfl) (Nat.le_of_ble_eq_true rfl)
set_option maxHeartbeats 1000000 in
set_option maxRecDepth 100000 in
theorem cx_X5_receive (l : Launch) (hl0 : l.stackTraces = false) (G : zG) (sz : Nat) (a b : Nat → Nat) (x y1 y2 : Nat) (x9 : Int32) (hbad : ¬ (1 ≤ x9 ∧ x9 ≤ 10)) : zMx zNi l yX5_receive wsX5_receive ({ frames := 8, cells := 1, slots := 6, locals := 122 } : Room) [.ref x, .int x9] G [(x, .inr (5, [.ref (a 0), .ref y1, .ref y2, .ref (b 0)]))] "java/lang/IllegalArgumentException" sz := by
  refine zMx_of (cc := cX5_receive) (maxL := 2) (ret := (some .int)) (by decide) rfl (Nat.le_of_ble_eq_true rfl) ?_
  intro p e s m args below meth c A ls hx hb hr hml hts hown hlocks hnm hK hP hD hAe hS hA hl hsz hZ hte
  have hown : s.vm.findClass RX5 = some m.cls := hown
  have hP : va_P G.1 vwCl [(x, .inr (5, [.ref (a 0), .ref y1, .ref y2, .ref (b 0)]))] s.heap := hP
  have hD : va_D A [(x, .inr (5, [.ref (a 0), .ref y1, .ref y2, .ref (b 0)]))] := hD
  have hl : lv_has ls 2 [(0, .ref x), (1, .int x9)] := hl
  refine lv_iload_n hx hb dX5_receive_0 rfl (lv_at hl 1 rfl) ?_
  have hPc := hP.sub (ws' := []) [] rfl
  have hDc := hD.sub (ws' := []) [] (by decide) rfl
  exact z_outv (vx_runS (As := [.int x9]) (rest := []) ⟨hx, hb, hml, hown, hts⟩ (cx_X5_checkStrength l hl0 G s.heap.size x9 hbad) (va_cwS 1 hts gX5_receive_X5_checkStrength rfl rfl rfl (by decide +kernel) ⟨(Nat.le_of_ble_eq_true rfl), (Nat.le_of_ble_eq_true rfl)⟩) (zSx hK hPc hDc hS hZ hA) rfl rfl hl.1 rfl (lv_room (Nat.le_of_ble_eq_true rfl)) dX5_receive_1 ⟨(Nat.le_of_ble_eq_true rfl), (Nat.le_of_ble_eq_true rfl)⟩) hP hD hS hA hte hlocks [] rfl (Nat.le_of_ble_eq_true rfl) (Nat.le_of_ble_eq_true rfl)
set_option maxHeartbeats 1000000 in
set_option maxRecDepth 100000 in
theorem cx_X5_shine (l : Launch) (hl0 : l.stackTraces = false) (G : zG) (sz : Nat) (a b : Nat → Nat) (x y1 y2 : Nat) (x9 : Int32) (hbad : ¬ (1 ≤ x9 ∧ x9 ≤ 40)) : zMx zNi l yX5_shine wsX5_shine ({ frames := 7, cells := 1, slots := 6, locals := 102 } : Room) [.ref x, .int x9] G [(x, .inr (5, [.ref (a 0), .ref y1, .ref y2, .ref (b 0)]))] "java/lang/IllegalArgumentException" sz := by
  refine zMx_of (cc := cX5_shine) (maxL := 2) (ret := (some .int)) (by decide) rfl (Nat.le_of_ble_eq_true rfl) ?_
  intro p e s m args below meth c A ls hx hb hr hml hts hown hlocks hnm hK hP hD hAe hS hA hl hsz hZ hte
  have hown : s.vm.findClass RX5 = some m.cls := hown
  have hP : va_P G.1 vwCl [(x, .inr (5, [.ref (a 0), .ref y1, .ref y2, .ref (b 0)]))] s.heap := hP
  have hD : va_D A [(x, .inr (5, [.ref (a 0), .ref y1, .ref y2, .ref (b 0)]))] := hD
  have hl : lv_has ls 2 [(0, .ref x), (1, .int x9)] := hl
  refine lv_iload_n hx hb dX5_shine_0 rfl (lv_at hl 1 rfl) ?_
  refine lv_iconst (v := 1) hx hb dX5_shine_1 (by decide) ?_
  refine lv_bipush (v := 40) hx hb dX5_shine_2 (by decide) ?_
  have hPc := hP.sub (ws' := []) [] rfl
  have hDc := hD.sub (ws' := []) [] (by decide) rfl
  refine z_calli (wr := [(x, .inr (5, [.ref (a 0), .ref y1, .ref y2, .ref (b 0)]))]) (va_runS (As := [.int x9, .int 1, .int 40]) (rest := []) ⟨hx, hb, hml, hown, hts⟩ (c_X5_isWithin l G s.heap.size x9 1 40) (va_cwS 3 hts gX5_shine_X5_isWithin rfl rfl rfl (by decide +kernel) ⟨(Nat.le_of_ble_eq_true rfl), (Nat.le_of_ble_eq_true rfl)⟩) (zS hK hPc hDc) rfl rfl hl.1 rfl (lv_room (Nat.le_of_ble_eq_true rfl)) dX5_shine_4 ⟨(Nat.le_of_ble_eq_true rfl), (Nat.le_of_ble_eq_true rfl)⟩) hP hD hS hA [] [0] rfl rfl (by decide) (by decide) (fun r_1 u_1 H locs hw_1 hP hD hS => ?_)
  subst hw_1
  have hP : va_P G.1 vwCl [(x, .inr (5, [.ref (a 0), .ref y1, .ref y2, .ref (b 0)]))] H := hP
  have hD : va_D A [(x, .inr (5, [.ref (a 0), .ref y1, .ref y2, .ref (b 0)]))] := hD
  refine z_top (if_neg hbad) ?_
  have hPc := hP.sub (ws' := []) [] rfl
  have hDc := hD.sub (ws' := []) [] (by decide) rfl
  exact z_outv (vx_runS (As := [.int 0]) (rest := []) ⟨hx, hb, hml, hown, hts⟩ (cx_X5_checkArgument l hl0 G H.size) (va_cwS 1 hts gX5_shine_X5_checkArgument rfl rfl rfl (by decide +kernel) ⟨(Nat.le_of_ble_eq_true rfl), (Nat.le_of_ble_eq_true rfl)⟩) (zSx hK hPc hDc hS hZ hA) rfl rfl hl.1 rfl (lv_room (Nat.le_of_ble_eq_true rfl)) dX5_shine_7 ⟨(Nat.le_of_ble_eq_true rfl), (Nat.le_of_ble_eq_true rfl)⟩) hP hD hS hA hte hlocks [] rfl (Nat.le_of_ble_eq_true rfl) (Nat.le_of_ble_eq_true rfl)
set_option maxHeartbeats 1000000 in
set_option maxRecDepth 100000 in
theorem cx_X5_pass (l : Launch) (hl0 : l.stackTraces = false) (G : zG) (sz : Nat) (a b : Nat → Nat) (x y1 y2 : Nat) (x9 : Int32) (hbad : ¬ (1 ≤ x9 ∧ x9 ≤ 99)) : zMx zNi l yX5_pass wsX5_pass ({ frames := 7, cells := 1, slots := 6, locals := 102 } : Room) [.ref x, .int x9] G [(x, .inr (5, [.ref (a 0), .ref y1, .ref y2, .ref (b 0)]))] "java/lang/IllegalArgumentException" sz := by
  refine zMx_of (cc := cX5_pass) (maxL := 2) (ret := (some .int)) (by decide) rfl (Nat.le_of_ble_eq_true rfl) ?_
  intro p e s m args below meth c A ls hx hb hr hml hts hown hlocks hnm hK hP hD hAe hS hA hl hsz hZ hte
  have hown : s.vm.findClass RX5 = some m.cls := hown
  have hP : va_P G.1 vwCl [(x, .inr (5, [.ref (a 0), .ref y1, .ref y2, .ref (b 0)]))] s.heap := hP
  have hD : va_D A [(x, .inr (5, [.ref (a 0), .ref y1, .ref y2, .ref (b 0)]))] := hD
  have hl : lv_has ls 2 [(0, .ref x), (1, .int x9)] := hl
  refine lv_iload_n hx hb dX5_pass_0 rfl (lv_at hl 1 rfl) ?_
  refine lv_iconst (v := 1) hx hb dX5_pass_1 (by decide) ?_
  refine lv_bipush (v := 99) hx hb dX5_pass_2 (by decide) ?_
  have hPc := hP.sub (ws' := []) [] rfl
  have hDc := hD.sub (ws' := []) [] (by decide) rfl
  refine z_calli (wr := [(x, .inr (5, [.ref (a 0), .ref y1, .ref y2, .ref (b 0)]))]) (va_runS (As := [.int x9, .int 1, .int 99]) (rest := []) ⟨hx, hb, hml, hown, hts⟩ (c_X5_isWithin l G s.heap.size x9 1 99) (va_cwS 3 hts gX5_pass_X5_isWithin rfl rfl rfl (by decide +kernel) ⟨(Nat.le_of_ble_eq_true rfl), (Nat.le_of_ble_eq_true rfl)⟩) (zS hK hPc hDc) rfl rfl hl.1 rfl (lv_room (Nat.le_of_ble_eq_true rfl)) dX5_pass_4 ⟨(Nat.le_of_ble_eq_true rfl), (Nat.le_of_ble_eq_true rfl)⟩) hP hD hS hA [] [0] rfl rfl (by decide) (by decide) (fun r_1 u_1 H locs hw_1 hP hD hS => ?_)
  subst hw_1
  have hP : va_P G.1 vwCl [(x, .inr (5, [.ref (a 0), .ref y1, .ref y2, .ref (b 0)]))] H := hP
  have hD : va_D A [(x, .inr (5, [.ref (a 0), .ref y1, .ref y2, .ref (b 0)]))] := hD
  refine z_top (if_neg hbad) ?_
  have hPc := hP.sub (ws' := []) [] rfl
  have hDc := hD.sub (ws' := []) [] (by decide) rfl
  exact z_outv (vx_runS (As := [.int 0]) (rest := []) ⟨hx, hb, hml, hown, hts⟩ (cx_X5_checkArgument l hl0 G H.size) (va_cwS 1 hts gX5_pass_X5_checkArgument rfl rfl rfl (by decide +kernel) ⟨(Nat.le_of_ble_eq_true rfl), (Nat.le_of_ble_eq_true rfl)⟩) (zSx hK hPc hDc hS hZ hA) rfl rfl hl.1 rfl (lv_room (Nat.le_of_ble_eq_true rfl)) dX5_pass_7 ⟨(Nat.le_of_ble_eq_true rfl), (Nat.le_of_ble_eq_true rfl)⟩) hP hD hS hA hte hlocks [] rfl (Nat.le_of_ble_eq_true rfl) (Nat.le_of_ble_eq_true rfl)
set_option maxHeartbeats 1000000 in
set_option maxRecDepth 100000 in
theorem cx_X5_setGlare (l : Launch) (hl0 : l.stackTraces = false) (G : zG) (sz : Nat) (a b : Nat → Nat) (x y1 y2 : Nat) (x9 : Int32) (hbad : ¬ (0 ≤ x9 ∧ x9 ≤ 9)) : zMx zNi l yX5_setGlare wsX5_setGlare ({ frames := 7, cells := 1, slots := 6, locals := 102 } : Room) [.ref x, .int x9] G [(x, .inr (5, [.ref (a 0), .ref y1, .ref y2, .ref (b 0)]))] "java/lang/IllegalArgumentException" sz := by
  refine zMx_of (cc := cX5_setGlare) (maxL := 3) (ret := (some .int)) (by decide) rfl (Nat.le_of_ble_eq_true rfl) ?_
  intro p e s m args below meth c A ls hx hb hr hml hts hown hlocks hnm hK hP hD hAe hS hA hl hsz hZ hte
  have hown : s.vm.findClass RX5 = some m.cls := hown
  have hP : va_P G.1 vwCl [(x, .inr (5, [.ref (a 0), .ref y1, .ref y2, .ref (b 0)]))] s.heap := hP
  have hD : va_D A [(x, .inr (5, [.ref (a 0), .ref y1, .ref y2, .ref (b 0)]))] := hD
  have hl : lv_has ls 3 [(0, .ref x), (1, .int x9)] := hl
  refine lv_iload_n hx hb dX5_setGlare_0 rfl (lv_at hl 1 rfl) ?_
  refine lv_iconst (v := 0) hx hb dX5_setGlare_1 (by decide) ?_
  refine lv_bipush (v := 9) hx hb dX5_setGlare_2 (by decide) ?_
  have hPc := hP.sub (ws' := []) [] rfl
  have hDc := hD.sub (ws' := []) [] (by decide) rfl
  refine z_calli (wr := [(x, .inr (5, [.ref (a 0), .ref y1, .ref y2, .ref (b 0)]))]) (va_runS (As := [.int x9, .int 0, .int 9]) (rest := []) ⟨hx, hb, hml, hown, hts⟩ (c_X5_isWithin l G s.heap.size x9 0 9) (va_cwS 3 hts gX5_setGlare_X5_isWithin rfl rfl rfl (by decide +kernel) ⟨(Nat.le_of_ble_eq_true rfl), (Nat.le_of_ble_eq_true rfl)⟩) (zS hK hPc hDc) rfl rfl hl.1 rfl (lv_room (Nat.le_of_ble_eq_true rfl)) dX5_setGlare_4 ⟨(Nat.le_of_ble_eq_true rfl), (Nat.le_of_ble_eq_true rfl)⟩) hP hD hS hA [] [0] rfl rfl (by decide) (by decide) (fun r_1 u_1 H locs hw_1 hP hD hS => ?_)
  subst hw_1
  have hP : va_P G.1 vwCl [(x, .inr (5, [.ref (a 0), .ref y1, .ref y2, .ref (b 0)]))] H := hP
  have hD : va_D A [(x, .inr (5, [.ref (a 0), .ref y1, .ref y2, .ref (b 0)]))] := hD
  refine z_top (if_neg hbad) ?_
  have hPc := hP.sub (ws' := []) [] rfl
  have hDc := hD.sub (ws' := []) [] (by decide) rfl
  exact z_outv (vx_runS (As := [.int 0]) (rest := []) ⟨hx, hb, hml, hown, hts⟩ (cx_X5_checkArgument l hl0 G H.size) (va_cwS 1 hts gX5_setGlare_X5_checkArgument rfl rfl rfl (by decide +kernel) ⟨(Nat.le_of_ble_eq_true rfl), (Nat.le_of_ble_eq_true rfl)⟩) (zSx hK hPc hDc hS hZ hA) rfl rfl hl.1 rfl (lv_room (Nat.le_of_ble_eq_true rfl)) dX5_setGlare_7 ⟨(Nat.le_of_ble_eq_true rfl), (Nat.le_of_ble_eq_true rfl)⟩) hP hD hS hA hte hlocks [] rfl (Nat.le_of_ble_eq_true rfl) (Nat.le_of_ble_eq_true rfl)
set_option maxHeartbeats 1000000 in
set_option maxRecDepth 100000 in
theorem cx_X5_setAddress (l : Launch) (hl0 : l.stackTraces = false) (G : zG) (sz : Nat) (a b : Nat → Nat) (x y1 y2 : Nat) (x9 : Int32) (hbad : ¬ (0 ≤ x9 ∧ x9 ≤ 7)) : zMx zNi l yX5_setAddress wsX5_setAddress ({ frames := 7, cells := 1, slots := 6, locals := 102 } : Room) [.ref x, .int x9] G [(x, .inr (5, [.ref (a 0), .ref y1, .ref y2, .ref (b 0)]))] "java/lang/IllegalArgumentException" sz := by
  refine zMx_of (cc := cX5_setAddress) (maxL := 3) (ret := (some .int)) (by decide) rfl (Nat.le_of_ble_eq_true rfl) ?_
  intro p e s m args below meth c A ls hx hb hr hml hts hown hlocks hnm hK hP hD hAe hS hA hl hsz hZ hte
  have hown : s.vm.findClass RX5 = some m.cls := hown
  have hP : va_P G.1 vwCl [(x, .inr (5, [.ref (a 0), .ref y1, .ref y2, .ref (b 0)]))] s.heap := hP
  have hD : va_D A [(x, .inr (5, [.ref (a 0), .ref y1, .ref y2, .ref (b 0)]))] := hD
  have hl : lv_has ls 3 [(0, .ref x), (1, .int x9)] := hl
  refine lv_iload_n hx hb dX5_setAddress_0 rfl (lv_at hl 1 rfl) ?_
  refine lv_iconst (v := 0) hx hb dX5_setAddress_1 (by decide) ?_
  refine lv_bipush (v := 7) hx hb dX5_setAddress_2 (by decide) ?_
  have hPc := hP.sub (ws' := []) [] rfl
  have hDc := hD.sub (ws' := []) [] (by decide) rfl
  refine z_calli (wr := [(x, .inr (5, [.ref (a 0), .ref y1, .ref y2, .ref (b 0)]))]) (va_runS (As := [.int x9, .int 0, .int 7]) (rest := []) ⟨hx, hb, hml, hown, hts⟩ (c_X5_isWithin l G s.heap.size x9 0 7) (va_cwS 3 hts gX5_setAddress_X5_isWithin rfl rfl rfl (by decide +kernel) ⟨(Nat.le_of_ble_eq_true rfl), (Nat.le_of_ble_eq_true rfl)⟩) (zS hK hPc hDc) rfl rfl hl.1 rfl (lv_room (Nat.le_of_ble_eq_true rfl)) dX5_setAddress_4 ⟨(Nat.le_of_ble_eq_true rfl), (Nat.le_of_ble_eq_true rfl)⟩) hP hD hS hA [] [0] rfl rfl (by decide) (by decide) (fun r_1 u_1 H locs hw_1 hP hD hS => ?_)
  subst hw_1
  have hP : va_P G.1 vwCl [(x, .inr (5, [.ref (a 0), .ref y1, .ref y2, .ref (b 0)]))] H := hP
  have hD : va_D A [(x, .inr (5, [.ref (a 0), .ref y1, .ref y2, .ref (b 0)]))] := hD
  refine z_top (if_neg hbad) ?_
  have hPc := hP.sub (ws' := []) [] rfl
  have hDc := hD.sub (ws' := []) [] (by decide) rfl
  exact z_outv (vx_runS (As := [.int 0]) (rest := []) ⟨hx, hb, hml, hown, hts⟩ (cx_X5_checkArgument l hl0 G H.size) (va_cwS 1 hts gX5_setAddress_X5_checkArgument rfl rfl rfl (by decide +kernel) ⟨(Nat.le_of_ble_eq_true rfl), (Nat.le_of_ble_eq_true rfl)⟩) (zSx hK hPc hDc hS hZ hA) rfl rfl hl.1 rfl (lv_room (Nat.le_of_ble_eq_true rfl)) dX5_setAddress_7 ⟨(Nat.le_of_ble_eq_true rfl), (Nat.le_of_ble_eq_true rfl)⟩) hP hD hS hA hte hlocks [] rfl (Nat.le_of_ble_eq_true rfl) (Nat.le_of_ble_eq_true rfl)
set_option maxHeartbeats 1000000 in
set_option maxRecDepth 100000 in
theorem cx_X5_append (l : Launch) (hl0 : l.stackTraces = false) (G : zG) (sz : Nat) (a b : Nat → Nat) (x y1 y2 : Nat) (x9 : Int32) (hbad : ¬ (33 ≤ x9 ∧ x9 ≤ 126)) : zMx zNi l yX5_append wsX5_append ({ frames := 7, cells := 1, slots := 6, locals := 102 } : Room) [.ref x, .int x9] G [(x, .inr (5, [.ref (a 0), .ref y1, .ref y2, .ref (b 0)]))] "java/lang/IllegalArgumentException" sz := by
  refine zMx_of (cc := cX5_append) (maxL := 2) (ret := (some .int)) (by decide) rfl (Nat.le_of_ble_eq_true rfl) ?_
  intro p e s m args below meth c A ls hx hb hr hml hts hown hlocks hnm hK hP hD hAe hS hA hl hsz hZ hte
  have hown : s.vm.findClass RX5 = some m.cls := hown
  have hP : va_P G.1 vwCl [(x, .inr (5, [.ref (a 0), .ref y1, .ref y2, .ref (b 0)]))] s.heap := hP
  have hD : va_D A [(x, .inr (5, [.ref (a 0), .ref y1, .ref y2, .ref (b 0)]))] := hD
  have hl : lv_has ls 2 [(0, .ref x), (1, .int x9)] := hl
  refine lv_iload_n hx hb dX5_append_0 rfl (lv_at hl 1 rfl) ?_
  refine lv_bipush (v := 33) hx hb dX5_append_1 (by decide) ?_
  refine lv_bipush (v := 126) hx hb dX5_append_3 (by decide) ?_
  have hPc := hP.sub (ws' := []) [] rfl
  have hDc := hD.sub (ws' := []) [] (by decide) rfl
  refine z_calli (wr := [(x, .inr (5, [.ref (a 0), .ref y1, .ref y2, .ref (b 0)]))]) (va_runS (As := [.int x9, .int 33, .int 126]) (rest := []) ⟨hx, hb, hml, hown, hts⟩ (c_X5_isWithin l G s.heap.size x9 33 126) (va_cwS 3 hts gX5_append_X5_isWithin rfl rfl rfl (by decide +kernel) ⟨(Nat.le_of_ble_eq_true rfl), (Nat.le_of_ble_eq_true rfl)⟩) (zS hK hPc hDc) rfl rfl hl.1 rfl (lv_room (Nat.le_of_ble_eq_true rfl)) dX5_append_5 ⟨(Nat.le_of_ble_eq_true rfl), (Nat.le_of_ble_eq_true rfl)⟩) hP hD hS hA [] [0] rfl rfl (by decide) (by decide) (fun r_1 u_1 H locs hw_1 hP hD hS => ?_)
  subst hw_1
  have hP : va_P G.1 vwCl [(x, .inr (5, [.ref (a 0), .ref y1, .ref y2, .ref (b 0)]))] H := hP
  have hD : va_D A [(x, .inr (5, [.ref (a 0), .ref y1, .ref y2, .ref (b 0)]))] := hD
  refine z_top (if_neg hbad) ?_
  have hPc := hP.sub (ws' := []) [] rfl
  have hDc := hD.sub (ws' := []) [] (by decide) rfl
  exact z_outv (vx_runS (As := [.int 0]) (rest := []) ⟨hx, hb, hml, hown, hts⟩ (cx_X5_checkArgument l hl0 G H.size) (va_cwS 1 hts gX5_append_X5_checkArgument rfl rfl rfl (by decide +kernel) ⟨(Nat.le_of_ble_eq_true rfl), (Nat.le_of_ble_eq_true rfl)⟩) (zSx hK hPc hDc hS hZ hA) rfl rfl hl.1 rfl (lv_room (Nat.le_of_ble_eq_true rfl)) dX5_append_8 ⟨(Nat.le_of_ble_eq_true rfl), (Nat.le_of_ble_eq_true rfl)⟩) hP hD hS hA hte hlocks [] rfl (Nat.le_of_ble_eq_true rfl) (Nat.le_of_ble_eq_true rfl)
set_option maxHeartbeats 1000000 in
set_option maxRecDepth 100000 in
theorem cx_X5_action (l : Launch) (hl0 : l.stackTraces = false) (G : zG) (sz : Nat) (a b : Nat → Nat) (x y1 y2 : Nat) (x9 : Int32) (hbad : ¬ (0 ≤ x9 ∧ x9 ≤ 15)) : zMx zNi l yX5_action wsX5_action ({ frames := 7, cells := 1, slots := 6, locals := 102 } : Room) [.ref x, .int x9] G [(x, .inr (5, [.ref (a 0), .ref y1, .ref y2, .ref (b 0)]))] "java/lang/IndexOutOfBoundsException" sz := by
  refine zMx_of (cc := cX5_action) (maxL := 2) (ret := (some .int)) (by decide) rfl (Nat.le_of_ble_eq_true rfl) ?_
  intro p e s m args below meth c A ls hx hb hr hml hts hown hlocks hnm hK hP hD hAe hS hA hl hsz hZ hte
  have hown : s.vm.findClass RX5 = some m.cls := hown
  have hP : va_P G.1 vwCl [(x, .inr (5, [.ref (a 0), .ref y1, .ref y2, .ref (b 0)]))] s.heap := hP
  have hD : va_D A [(x, .inr (5, [.ref (a 0), .ref y1, .ref y2, .ref (b 0)]))] := hD
  have hl : lv_has ls 2 [(0, .ref x), (1, .int x9)] := hl
  refine lv_iload_n hx hb dX5_action_0 rfl (lv_at hl 1 rfl) ?_
  refine lv_iconst (v := 0) hx hb dX5_action_1 (by decide) ?_
  refine lv_bipush (v := 15) hx hb dX5_action_2 (by decide) ?_
  have hPc := hP.sub (ws' := []) [] rfl
  have hDc := hD.sub (ws' := []) [] (by decide) rfl
  refine z_calli (wr := [(x, .inr (5, [.ref (a 0), .ref y1, .ref y2, .ref (b 0)]))]) (va_runS (As := [.int x9, .int 0, .int 15]) (rest := []) ⟨hx, hb, hml, hown, hts⟩ (c_X5_isWithin l G s.heap.size x9 0 15) (va_cwS 3 hts gX5_action_X5_isWithin rfl rfl rfl (by decide +kernel) ⟨(Nat.le_of_ble_eq_true rfl), (Nat.le_of_ble_eq_true rfl)⟩) (zS hK hPc hDc) rfl rfl hl.1 rfl (lv_room (Nat.le_of_ble_eq_true rfl)) dX5_action_4 ⟨(Nat.le_of_ble_eq_true rfl), (Nat.le_of_ble_eq_true rfl)⟩) hP hD hS hA [] [0] rfl rfl (by decide) (by decide) (fun r_1 u_1 H locs hw_1 hP hD hS => ?_)
  subst hw_1
  have hP : va_P G.1 vwCl [(x, .inr (5, [.ref (a 0), .ref y1, .ref y2, .ref (b 0)]))] H := hP
  have hD : va_D A [(x, .inr (5, [.ref (a 0), .ref y1, .ref y2, .ref (b 0)]))] := hD
  refine z_top (if_neg hbad) ?_
  have hPc := hP.sub (ws' := []) [] rfl
  have hDc := hD.sub (ws' := []) [] (by decide) rfl
  exact z_outv (vx_runS (As := [.int 0]) (rest := []) ⟨hx, hb, hml, hown, hts⟩ (cx_X5_checkIndex l hl0 G H.size) (va_cwS 1 hts gX5_action_X5_checkIndex rfl rfl rfl (by decide +kernel) ⟨(Nat.le_of_ble_eq_true rfl), (Nat.le_of_ble_eq_true rfl)⟩) (zSx hK hPc hDc hS hZ hA) rfl rfl hl.1 rfl (lv_room (Nat.le_of_ble_eq_true rfl)) dX5_action_7 ⟨(Nat.le_of_ble_eq_true rfl), (Nat.le_of_ble_eq_true rfl)⟩) hP hD hS hA hte hlocks [] rfl (Nat.le_of_ble_eq_true rfl) (Nat.le_of_ble_eq_true rfl)
set_option maxHeartbeats 1000000 in
set_option maxRecDepth 100000 in
theorem cx_X5_done (l : Launch) (hl0 : l.stackTraces = false) (G : zG) (sz : Nat) (a b : Nat → Nat) (x y1 y2 : Nat) (x9 : Int32) (hbad : ¬ (0 ≤ x9 ∧ x9 ≤ 15)) : zMx zNi l yX5_done wsX5_done ({ frames := 7, cells := 1, slots := 6, locals := 102 } : Room) [.ref x, .int x9] G [(x, .inr (5, [.ref (a 0), .ref y1, .ref y2, .ref (b 0)]))] "java/lang/IndexOutOfBoundsException" sz := by
  refine zMx_of (cc := cX5_done) (maxL := 2) (ret := (some .int)) (by decide) rfl (Nat.le_of_ble_eq_true rfl) ?_
  intro p e s m args below meth c A ls hx hb hr hml hts hown hlocks hnm hK hP hD hAe hS hA hl hsz hZ hte
  have hown : s.vm.findClass RX5 = some m.cls := hown
  have hP : va_P G.1 vwCl [(x, .inr (5, [.ref (a 0), .ref y1, .ref y2, .ref (b 0)]))] s.heap := hP
  have hD : va_D A [(x, .inr (5, [.ref (a 0), .ref y1, .ref y2, .ref (b 0)]))] := hD
  have hl : lv_has ls 2 [(0, .ref x), (1, .int x9)] := hl
  refine lv_iload_n hx hb dX5_done_0 rfl (lv_at hl 1 rfl) ?_
  refine lv_iconst (v := 0) hx hb dX5_done_1 (by decide) ?_
  refine lv_bipush (v := 15) hx hb dX5_done_2 (by decide) ?_
  have hPc := hP.sub (ws' := []) [] rfl
  have hDc := hD.sub (ws' := []) [] (by decide) rfl
  refine z_calli (wr := [(x, .inr (5, [.ref (a 0), .ref y1, .ref y2, .ref (b 0)]))]) (va_runS (As := [.int x9, .int 0, .int 15]) (rest := []) ⟨hx, hb, hml, hown, hts⟩ (c_X5_isWithin l G s.heap.size x9 0 15) (va_cwS 3 hts gX5_done_X5_isWithin rfl rfl rfl (by decide +kernel) ⟨(Nat.le_of_ble_eq_true rfl), (Nat.le_of_ble_eq_true rfl)⟩) (zS hK hPc hDc) rfl rfl hl.1 rfl (lv_room (Nat.le_of_ble_eq_true rfl)) dX5_done_4 ⟨(Nat.le_of_ble_eq_true rfl), (Nat.le_of_ble_eq_true rfl)⟩) hP hD hS hA [] [0] rfl rfl (by decide) (by decide) (fun r_1 u_1 H locs hw_1 hP hD hS => ?_)
  subst hw_1
  have hP : va_P G.1 vwCl [(x, .inr (5, [.ref (a 0), .ref y1, .ref y2, .ref (b 0)]))] H := hP
  have hD : va_D A [(x, .inr (5, [.ref (a 0), .ref y1, .ref y2, .ref (b 0)]))] := hD
  refine z_top (if_neg hbad) ?_
  have hPc := hP.sub (ws' := []) [] rfl
  have hDc := hD.sub (ws' := []) [] (by decide) rfl
  exact z_outv (vx_runS (As := [.int 0]) (rest := []) ⟨hx, hb, hml, hown, hts⟩ (cx_X5_checkIndex l hl0 G H.size) (va_cwS 1 hts gX5_done_X5_checkIndex rfl rfl rfl (by decide +kernel) ⟨(Nat.le_of_ble_eq_true rfl), (Nat.le_of_ble_eq_true rfl)⟩) (zSx hK hPc hDc hS hZ hA) rfl rfl hl.1 rfl (lv_room (Nat.le_of_ble_eq_true rfl)) dX5_done_7 ⟨(Nat.le_of_ble_eq_true rfl), (Nat.le_of_ble_eq_true rfl)⟩) hP hD hS hA hte hlocks [] rfl (Nat.le_of_ble_eq_true rfl) (Nat.le_of_ble_eq_true rfl)
set_option maxHeartbeats 1000000 in
set_option maxRecDepth 100000 in
theorem cx_X5_refused (l : Launch) (hl0 : l.stackTraces = false) (G : zG) (sz : Nat) (a b : Nat → Nat) (x y1 y2 : Nat) (x9 : Int32) (hbad : ¬ (1 ≤ x9 ∧ x9 ≤ 6)) : zMx zNi l yX5_refused wsX5_refused ({ frames := 7, cells := 1, slots := 6, locals := 102 } : Room) [.ref x, .int x9] G [(x, .inr (5, [.ref (a 0), .ref y1, .ref y2, .ref (b 0)]))] "java/lang/IndexOutOfBoundsException" sz := by
  refine zMx_of (cc := cX5_refused) (maxL := 2) (ret := (some .int)) (by decide) rfl (Nat.le_of_ble_eq_true rfl) ?_
  intro p e s m args below meth c A ls hx hb hr hml hts hown hlocks hnm hK hP hD hAe hS hA hl hsz hZ hte
  have hown : s.vm.findClass RX5 = some m.cls := hown
  have hP : va_P G.1 vwCl [(x, .inr (5, [.ref (a 0), .ref y1, .ref y2, .ref (b 0)]))] s.heap := hP
  have hD : va_D A [(x, .inr (5, [.ref (a 0), .ref y1, .ref y2, .ref (b 0)]))] := hD
  have hl : lv_has ls 2 [(0, .ref x), (1, .int x9)] := hl
  refine lv_iload_n hx hb dX5_refused_0 rfl (lv_at hl 1 rfl) ?_
  refine lv_iconst (v := 1) hx hb dX5_refused_1 (by decide) ?_
  refine lv_bipush (v := 6) hx hb dX5_refused_2 (by decide) ?_
  have hPc := hP.sub (ws' := []) [] rfl
  have hDc := hD.sub (ws' := []) [] (by decide) rfl
  refine z_calli (wr := [(x, .inr (5, [.ref (a 0), .ref y1, .ref y2, .ref (b 0)]))]) (va_runS (As := [.int x9, .int 1, .int 6]) (rest := []) ⟨hx, hb, hml, hown, hts⟩ (c_X5_isWithin l G s.heap.size x9 1 6) (va_cwS 3 hts gX5_refused_X5_isWithin rfl rfl rfl (by decide +kernel) ⟨(Nat.le_of_ble_eq_true rfl), (Nat.le_of_ble_eq_true rfl)⟩) (zS hK hPc hDc) rfl rfl hl.1 rfl (lv_room (Nat.le_of_ble_eq_true rfl)) dX5_refused_4 ⟨(Nat.le_of_ble_eq_true rfl), (Nat.le_of_ble_eq_true rfl)⟩) hP hD hS hA [] [0] rfl rfl (by decide) (by decide) (fun r_1 u_1 H locs hw_1 hP hD hS => ?_)
  subst hw_1
  have hP : va_P G.1 vwCl [(x, .inr (5, [.ref (a 0), .ref y1, .ref y2, .ref (b 0)]))] H := hP
  have hD : va_D A [(x, .inr (5, [.ref (a 0), .ref y1, .ref y2, .ref (b 0)]))] := hD
  refine z_top (if_neg hbad) ?_
  have hPc := hP.sub (ws' := []) [] rfl
  have hDc := hD.sub (ws' := []) [] (by decide) rfl
  exact z_outv (vx_runS (As := [.int 0]) (rest := []) ⟨hx, hb, hml, hown, hts⟩ (cx_X5_checkIndex l hl0 G H.size) (va_cwS 1 hts gX5_refused_X5_checkIndex rfl rfl rfl (by decide +kernel) ⟨(Nat.le_of_ble_eq_true rfl), (Nat.le_of_ble_eq_true rfl)⟩) (zSx hK hPc hDc hS hZ hA) rfl rfl hl.1 rfl (lv_room (Nat.le_of_ble_eq_true rfl)) dX5_refused_7 ⟨(Nat.le_of_ble_eq_true rfl), (Nat.le_of_ble_eq_true rfl)⟩) hP hD hS hA hte hlocks [] rfl (Nat.le_of_ble_eq_true rfl) (Nat.le_of_ble_eq_true rfl)
set_option maxHeartbeats 1000000 in
set_option maxRecDepth 100000 in
theorem cx_X5_learn (l : Launch) (hl0 : l.stackTraces = false) (G : zG) (sz : Nat) (a b : Nat → Nat) (x y1 y2 : Nat) (x9 y9 : Int32) (hbad : ¬ (0 ≤ x9 ∧ x9 ≤ 15)) : zMx zNi l yX5_learn wsX5_learn ({ frames := 7, cells := 1, slots := 6, locals := 102 } : Room) [.ref x, .int x9, .int y9] G [(x, .inr (5, [.ref (a 0), .ref y1, .ref y2, .ref (b 0)]))] "java/lang/IndexOutOfBoundsException" sz := by
  refine zMx_of (cc := cX5_learn) (maxL := 4) (ret := (some .int)) (by decide) rfl (Nat.le_of_ble_eq_true rfl) ?_
  intro p e s m args below meth c A ls hx hb hr hml hts hown hlocks hnm hK hP hD hAe hS hA hl hsz hZ hte
  have hown : s.vm.findClass RX5 = some m.cls := hown
  have hP : va_P G.1 vwCl [(x, .inr (5, [.ref (a 0), .ref y1, .ref y2, .ref (b 0)]))] s.heap := hP
  have hD : va_D A [(x, .inr (5, [.ref (a 0), .ref y1, .ref y2, .ref (b 0)]))] := hD
  have hl : lv_has ls 4 [(0, .ref x), (1, .int x9), (2, .int y9)] := hl
  refine lv_iload_n hx hb dX5_learn_0 rfl (lv_at hl 1 rfl) ?_
  refine lv_iconst (v := 0) hx hb dX5_learn_1 (by decide) ?_
  refine lv_bipush (v := 15) hx hb dX5_learn_2 (by decide) ?_
  have hPc := hP.sub (ws' := []) [] rfl
  have hDc := hD.sub (ws' := []) [] (by decide) rfl
  refine z_calli (wr := [(x, .inr (5, [.ref (a 0), .ref y1, .ref y2, .ref (b 0)]))]) (va_runS (As := [.int x9, .int 0, .int 15]) (rest := []) ⟨hx, hb, hml, hown, hts⟩ (c_X5_isWithin l G s.heap.size x9 0 15) (va_cwS 3 hts gX5_learn_X5_isWithin rfl rfl rfl (by decide +kernel) ⟨(Nat.le_of_ble_eq_true rfl), (Nat.le_of_ble_eq_true rfl)⟩) (zS hK hPc hDc) rfl rfl hl.1 rfl (lv_room (Nat.le_of_ble_eq_true rfl)) dX5_learn_4 ⟨(Nat.le_of_ble_eq_true rfl), (Nat.le_of_ble_eq_true rfl)⟩) hP hD hS hA [] [0] rfl rfl (by decide) (by decide) (fun r_1 u_1 H locs hw_1 hP hD hS => ?_)
  subst hw_1
  have hP : va_P G.1 vwCl [(x, .inr (5, [.ref (a 0), .ref y1, .ref y2, .ref (b 0)]))] H := hP
  have hD : va_D A [(x, .inr (5, [.ref (a 0), .ref y1, .ref y2, .ref (b 0)]))] := hD
  refine z_top (if_neg hbad) ?_
  have hPc := hP.sub (ws' := []) [] rfl
  have hDc := hD.sub (ws' := []) [] (by decide) rfl
  exact z_outv (vx_runS (As := [.int 0]) (rest := []) ⟨hx, hb, hml, hown, hts⟩ (cx_X5_checkIndex l hl0 G H.size) (va_cwS 1 hts gX5_learn_X5_checkIndex rfl rfl rfl (by decide +kernel) ⟨(Nat.le_of_ble_eq_true rfl), (Nat.le_of_ble_eq_true rfl)⟩) (zSx hK hPc hDc hS hZ hA) rfl rfl hl.1 rfl (lv_room (Nat.le_of_ble_eq_true rfl)) dX5_learn_7 ⟨(Nat.le_of_ble_eq_true rfl), (Nat.le_of_ble_eq_true rfl)⟩) hP hD hS hA hte hlocks [] rfl (Nat.le_of_ble_eq_true rfl) (Nat.le_of_ble_eq_true rfl)
set_option maxHeartbeats 1000000 in
set_option maxRecDepth 100000 in
theorem cx_X5_learn2 (l : Launch) (hl0 : l.stackTraces = false) (G : zG) (sz : Nat) (a b : Nat → Nat) (x y1 y2 : Nat) (x9 y9 : Int32) (hok : 0 ≤ x9 ∧ x9 ≤ 15) (hbad : ¬ (0 ≤ y9 ∧ y9 ≤ 2)) : zMx zNi l yX5_learn wsX5_learn ({ frames := 7, cells := 1, slots := 6, locals := 102 } : Room) [.ref x, .int x9, .int y9] G [(x, .inr (5, [.ref (a 0), .ref y1, .ref y2, .ref (b 0)]))] "java/lang/IllegalArgumentException" sz := by
  refine zMx_of (cc := cX5_learn) (maxL := 4) (ret := (some .int)) (by decide) rfl (Nat.le_of_ble_eq_true rfl) ?_
  intro p e s m args below meth c A ls hx hb hr hml hts hown hlocks hnm hK hP hD hAe hS hA hl hsz hZ hte
  have hown : s.vm.findClass RX5 = some m.cls := hown
  have hP : va_P G.1 vwCl [(x, .inr (5, [.ref (a 0), .ref y1, .ref y2, .ref (b 0)]))] s.heap := hP
  have hD : va_D A [(x, .inr (5, [.ref (a 0), .ref y1, .ref y2, .ref (b 0)]))] := hD
  have hl : lv_has ls 4 [(0, .ref x), (1, .int x9), (2, .int y9)] := hl
  refine lv_iload_n hx hb dX5_learn_0 rfl (lv_at hl 1 rfl) ?_
  refine lv_iconst (v := 0) hx hb dX5_learn_1 (by decide) ?_
  refine lv_bipush (v := 15) hx hb dX5_learn_2 (by decide) ?_
  have hPc := hP.sub (ws' := []) [] rfl
  have hDc := hD.sub (ws' := []) [] (by decide) rfl
  refine z_calli (wr := [(x, .inr (5, [.ref (a 0), .ref y1, .ref y2, .ref (b 0)]))]) (va_runS (As := [.int x9, .int 0, .int 15]) (rest := []) ⟨hx, hb, hml, hown, hts⟩ (c_X5_isWithin l G s.heap.size x9 0 15) (va_cwS 3 hts gX5_learn_X5_isWithin rfl rfl rfl (by decide +kernel) ⟨(Nat.le_of_ble_eq_true rfl), (Nat.le_of_ble_eq_true rfl)⟩) (zS hK hPc hDc) rfl rfl hl.1 rfl (lv_room (Nat.le_of_ble_eq_true rfl)) dX5_learn_4 ⟨(Nat.le_of_ble_eq_true rfl), (Nat.le_of_ble_eq_true rfl)⟩) hP hD hS hA [] [0] rfl rfl (by decide) (by decide) (fun r_1 u_1 H locs hw_1 hP hD hS => ?_)
  subst hw_1
  have hP : va_P G.1 vwCl [(x, .inr (5, [.ref (a 0), .ref y1, .ref y2, .ref (b 0)]))] H := hP
  have hD : va_D A [(x, .inr (5, [.ref (a 0), .ref y1, .ref y2, .ref (b 0)]))] := hD
  refine z_top (if_pos hok) ?_
  have hPc := hP.sub (ws' := []) [] rfl
  have hDc := hD.sub (ws' := []) [] (by decide) rfl
  refine z_callv (wr := [(x, .inr (5, [.ref (a 0), .ref y1, .ref y2, .ref (b 0)]))]) (va_runS (As := [.int 1]) (rest := []) ⟨hx, hb, hml, hown, hts⟩ (c_X5_checkIndex l G H.size) (va_cwS 1 hts gX5_learn_X5_checkIndex rfl rfl rfl (by decide +kernel) ⟨(Nat.le_of_ble_eq_true rfl), (Nat.le_of_ble_eq_true rfl)⟩) (zS hK hPc hDc) rfl rfl hl.1 rfl (lv_room (Nat.le_of_ble_eq_true rfl)) dX5_learn_7 ⟨(Nat.le_of_ble_eq_true rfl), (Nat.le_of_ble_eq_true rfl)⟩) hP hD hS hA [] [0] rfl rfl (by decide) (by decide) (fun u_2 H locs hw_2 hP hD hS => ?_)
  have hP : va_P G.1 vwCl [(x, .inr (5, [.ref (a 0), .ref y1, .ref y2, .ref (b 0)]))] H := hP
  have hD : va_D A [(x, .inr (5, [.ref (a 0), .ref y1, .ref y2, .ref (b 0)]))] := hD
  refine lv_iload_n hx hb dX5_learn_10 rfl (lv_at hl 2 rfl) ?_
  refine lv_iconst (v := 0) hx hb dX5_learn_11 (by decide) ?_
  refine lv_iconst (v := 2) hx hb dX5_learn_12 (by decide) ?_
  have hPc := hP.sub (ws' := []) [] rfl
  have hDc := hD.sub (ws' := []) [] (by decide) rfl
  refine z_calli (wr := [(x, .inr (5, [.ref (a 0), .ref y1, .ref y2, .ref (b 0)]))]) (va_runS (As := [.int y9, .int 0, .int 2]) (rest := []) ⟨hx, hb, hml, hown, hts⟩ (c_X5_isWithin l G H.size y9 0 2) (va_cwS 3 hts gX5_learn_X5_isWithin rfl rfl rfl (by decide +kernel) ⟨(Nat.le_of_ble_eq_true rfl), (Nat.le_of_ble_eq_true rfl)⟩) (zS hK hPc hDc) rfl rfl hl.1 rfl (lv_room (Nat.le_of_ble_eq_true rfl)) dX5_learn_13 ⟨(Nat.le_of_ble_eq_true rfl), (Nat.le_of_ble_eq_true rfl)⟩) hP hD hS hA [] [0] rfl rfl (by decide) (by decide) (fun r_3 u_3 H locs hw_3 hP hD hS => ?_)
  subst hw_3
  have hP : va_P G.1 vwCl [(x, .inr (5, [.ref (a 0), .ref y1, .ref y2, .ref (b 0)]))] H := hP
  have hD : va_D A [(x, .inr (5, [.ref (a 0), .ref y1, .ref y2, .ref (b 0)]))] := hD
  refine z_top (if_neg hbad) ?_
  have hPc := hP.sub (ws' := []) [] rfl
  have hDc := hD.sub (ws' := []) [] (by decide) rfl
  exact z_outv (vx_runS (As := [.int 0]) (rest := []) ⟨hx, hb, hml, hown, hts⟩ (cx_X5_checkArgument l hl0 G H.size) (va_cwS 1 hts gX5_learn_X5_checkArgument rfl rfl rfl (by decide +kernel) ⟨(Nat.le_of_ble_eq_true rfl), (Nat.le_of_ble_eq_true rfl)⟩) (zSx hK hPc hDc hS hZ hA) rfl rfl hl.1 rfl (lv_room (Nat.le_of_ble_eq_true rfl)) dX5_learn_16 ⟨(Nat.le_of_ble_eq_true rfl), (Nat.le_of_ble_eq_true rfl)⟩) hP hD hS hA hte hlocks [] rfl (Nat.le_of_ble_eq_true rfl) (Nat.le_of_ble_eq_true rfl)
theorem zw_X5_receive_f12 : Cond.fieldLink RX5 12 "LightReceiver" "now" "LLightReceiver$State;" ∈ wsX5_receive := by decide +kernel
theorem zi_X5_receive_X5 : ∀ w ∈ wsX50, w ∈ wsX5_receive := fun _ h => List.mem_cons_of_mem _ (List.mem_append_left _ (List.mem_append_left _ (List.mem_append_left _ (List.mem_append_left _ (List.mem_append_left _ (List.mem_append_left _ (List.mem_append_right _ h)))))))
theorem zi_X5_receive_X4 : ∀ w ∈ wsX40, w ∈ wsX5_receive := fun _ h => List.mem_cons_of_mem _ (List.mem_append_left _ (List.mem_append_left _ (List.mem_append_left _ (List.mem_append_left _ (List.mem_append_left _ (List.mem_append_right _ h))))))
theorem zi_X5_receive_X2 : ∀ w ∈ wsX20, w ∈ wsX5_receive := fun _ h => List.mem_cons_of_mem _ (List.mem_append_left _ (List.mem_append_left _ (List.mem_append_left _ (List.mem_append_left _ (List.mem_append_right _ h)))))
theorem zgo_67_71 : ∀ w ∈ Cond.classLink RX5 67 "java/lang/IllegalStateException" :: Cond.initialized "java/lang/IllegalStateException" :: vx_atS RX5 71 "java/lang/IllegalStateException" ["java/lang/RuntimeException", "java/lang/Exception"], vx_ot w = true := by decide +kernel
theorem zw_X5_receive_cl67 : Cond.classLink RX5 67 "java/lang/IllegalStateException" ∈ wsX5_receive := by decide +kernel
theorem zw_X5_receive_in_IllegalStateException : Cond.initialized "java/lang/IllegalStateException" ∈ wsX5_receive := by decide +kernel
theorem zx_X5_receive_71 : ∀ w ∈ (vx_atS RX5 71 "java/lang/IllegalStateException" ["java/lang/RuntimeException", "java/lang/Exception"]).filter goodWord, w ∈ wsX5_receive := fun _ h => List.mem_cons_of_mem _ (List.mem_append_left _ (List.mem_append_right _ h))
set_option maxHeartbeats 1000000 in
set_option maxRecDepth 100000 in
theorem cx_X5_receive2 (l : Launch) (hl0 : l.stackTraces = false) (G : zG) (sz : Nat) (a b : Nat → Nat) (x y1 y2 : Nat) (g : zF) (rc : Nat) (hrc : rc ≤ 30) (hev : rc % 2 = 0) (x9 : Int32) (hok : 1 ≤ x9 ∧ x9 ≤ 10) : zMx zNi l yX5_receive wsX5_receive ({ frames := 6, cells := 1, slots := 6, locals := 82 } : Room) [.ref x, .int x9] G [(x, .inr (5, [.ref (a 0), .ref y1, .ref y2, .ref (b 0)])), ((a 0), .inr (4, [.int (g 0), .int (g 1), .int (g 2), .int (g 3), .int (g 4), .int (g 5), .int (g 6), .int (g 7), .int (g 8), .int (g 9), .ref (a 1), .ref (a 2), .ref (a 3), .ref (a 4)])), ((a 4), .inr (2, [.ref (a 8), .int (nI rc)]))] "java/lang/IllegalStateException" sz := by
  refine zMx_of (cc := cX5_receive) (maxL := 2) (ret := (some .int)) (by decide) rfl (Nat.le_of_ble_eq_true rfl) ?_
  intro p e s m args below meth c A ls hx hb hr hml hts hown hlocks hnm hK hP hD hAe hS hA hl hsz hZ hte
  have hown : s.vm.findClass RX5 = some m.cls := hown
  have hP : va_P G.1 vwCl [(x, .inr (5, [.ref (a 0), .ref y1, .ref y2, .ref (b 0)])), ((a 0), .inr (4, [.int (g 0), .int (g 1), .int (g 2), .int (g 3), .int (g 4), .int (g 5), .int (g 6), .int (g 7), .int (g 8), .int (g 9), .ref (a 1), .ref (a 2), .ref (a 3), .ref (a 4)])), ((a 4), .inr (2, [.ref (a 8), .int (nI rc)]))] s.heap := hP
  have hD : va_D A [(x, .inr (5, [.ref (a 0), .ref y1, .ref y2, .ref (b 0)])), ((a 0), .inr (4, [.int (g 0), .int (g 1), .int (g 2), .int (g 3), .int (g 4), .int (g 5), .int (g 6), .int (g 7), .int (g 8), .int (g 9), .ref (a 1), .ref (a 2), .ref (a 3), .ref (a 4)])), ((a 4), .inr (2, [.ref (a 8), .int (nI rc)]))] := hD
  have hl : lv_has ls 2 [(0, .ref x), (1, .int x9)] := hl
  refine lv_iload_n hx hb dX5_receive_0 rfl (lv_at hl 1 rfl) ?_
  have hPc := hP.sub (ws' := []) [] rfl
  have hDc := hD.sub (ws' := []) [] (by decide) rfl
  refine z_callv (wr := [(x, .inr (5, [.ref (a 0), .ref y1, .ref y2, .ref (b 0)])), ((a 0), .inr (4, [.int (g 0), .int (g 1), .int (g 2), .int (g 3), .int (g 4), .int (g 5), .int (g 6), .int (g 7), .int (g 8), .int (g 9), .ref (a 1), .ref (a 2), .ref (a 3), .ref (a 4)])), ((a 4), .inr (2, [.ref (a 8), .int (nI rc)]))]) (va_runS (As := [.int x9]) (rest := []) ⟨hx, hb, hml, hown, hts⟩ (c_X5_checkStrength l G s.heap.size x9 hok) (va_cwS 1 hts gX5_receive_X5_checkStrength rfl rfl rfl (by decide +kernel) ⟨(Nat.le_of_ble_eq_true rfl), (Nat.le_of_ble_eq_true rfl)⟩) (zS hK hPc hDc) rfl rfl hl.1 rfl (lv_room (Nat.le_of_ble_eq_true rfl)) dX5_receive_1 ⟨(Nat.le_of_ble_eq_true rfl), (Nat.le_of_ble_eq_true rfl)⟩) hP hD hS hA [] [0, 1, 2] rfl rfl (by decide) (by decide) (fun u_1 H locs hw_1 hP hD hS => ?_)
  have hP : va_P G.1 vwCl [(x, .inr (5, [.ref (a 0), .ref y1, .ref y2, .ref (b 0)])), ((a 0), .inr (4, [.int (g 0), .int (g 1), .int (g 2), .int (g 3), .int (g 4), .int (g 5), .int (g 6), .int (g 7), .int (g 8), .int (g 9), .ref (a 1), .ref (a 2), .ref (a 3), .ref (a 4)])), ((a 4), .inr (2, [.ref (a 8), .int (nI rc)]))] H := hP
  have hD : va_D A [(x, .inr (5, [.ref (a 0), .ref y1, .ref y2, .ref (b 0)])), ((a 0), .inr (4, [.int (g 0), .int (g 1), .int (g 2), .int (g 3), .int (g 4), .int (g 5), .int (g 6), .int (g 7), .int (g 8), .int (g 9), .ref (a 1), .ref (a 2), .ref (a 3), .ref (a 4)])), ((a 4), .inr (2, [.ref (a 8), .int (nI rc)]))] := hD
  refine lv_aload_n hx hb dX5_receive_4 rfl (lv_at hl 0 rfl) ?_
  refine va_get (D := G.1) (ci := 5) (v := .ref (a 0)) (C := RX5) (T := TX5) (N := 4) hx hb hts zi_X5_receive_X5 hown hK.1 hP 0 rfl rfl 0 (by decide) (hts _ zw_X5_receive_f12) (fun _ h9 => h9) rfl dX5_receive_5 ?_
  refine va_getN (D := G.1) (ci := 4) (v := .ref (a 4)) (C := RX4) (T := TX4) (N := 14) hx hb hts zi_X5_receive_X4 hown hK.1 hP 1 rfl rfl 13 (by decide) (zn_0 hK) (fun _ h9 => h9) rfl dX5_receive_8 ?_
  refine va_getN (D := G.1) (ci := 2) (v := .int (nI rc)) (C := RX2) (T := TX2) (N := 2) hx hb hts zi_X5_receive_X2 hown hK.1 hP 2 rfl rfl 1 (by decide) (zn_1 hK) (fun _ h9 => h9) rfl dX5_receive_11 ?_
  refine lv_iconst (v := 2) hx hb dX5_receive_14 (by decide) ?_
  refine lv_irem hx hb dX5_receive_15 (by decide) ?_
  refine z_top (pk_rem (a := rc) (d := 2) (by omega) (by omega) (by omega)) ?_
  refine lv_if_ne (tgt := 29) hx hb dX5_receive_16 (by decide) (fun c_2 => ?_) (fun c_2 => ?_)
  · exact absurd ((z_eq (a := rc % 2) (b := 0) rfl rfl (by omega) (by omega)).mpr hev) c_2
  · exact z_throw hl0 hx hb hown (by decide +kernel) (hts _ zw_X5_receive_cl67) (hts _ zw_X5_receive_in_IllegalStateException) (zst_0 hK) (fun w h => hts w (zx_X5_receive_71 w h)) zg2_IllegalStateException zgo_67_71 (by decide +kernel) hZ hP hD hS (hl.1.trans hml.symm) hte dX5_receive_19 dX5_receive_22 dX5_receive_23 dX5_receive_25 dX5_receive_28 (Nat.le_of_ble_eq_true rfl) (Nat.le_of_ble_eq_true rfl) (Nat.le_of_ble_eq_true rfl) (Nat.le_of_ble_eq_true rfl) hlocks (Nat.le_of_ble_eq_true rfl) (Nat.le_of_ble_eq_true rfl)
theorem zw_X5_shine_f12 : Cond.fieldLink RX5 12 "LightReceiver" "now" "LLightReceiver$State;" ∈ wsX5_shine := by decide +kernel
theorem zi_X5_shine_X5 : ∀ w ∈ wsX50, w ∈ wsX5_shine := fun _ h => List.mem_cons_of_mem _ (List.mem_append_left _ (List.mem_append_left _ (List.mem_append_left _ (List.mem_append_left _ (List.mem_append_left _ (List.mem_append_right _ h))))))
theorem zi_X5_shine_X4 : ∀ w ∈ wsX40, w ∈ wsX5_shine := fun _ h => List.mem_cons_of_mem _ (List.mem_append_left _ (List.mem_append_left _ (List.mem_append_left _ (List.mem_append_left _ (List.mem_append_right _ h)))))
theorem zi_X5_shine_X2 : ∀ w ∈ wsX20, w ∈ wsX5_shine := fun _ h => List.mem_cons_of_mem _ (List.mem_append_left _ (List.mem_append_left _ (List.mem_append_left _ (List.mem_append_right _ h))))
theorem zw_X5_shine_cl67 : Cond.classLink RX5 67 "java/lang/IllegalStateException" ∈ wsX5_shine := by decide +kernel
theorem zw_X5_shine_in_IllegalStateException : Cond.initialized "java/lang/IllegalStateException" ∈ wsX5_shine := by decide +kernel
theorem zx_X5_shine_71 : ∀ w ∈ (vx_atS RX5 71 "java/lang/IllegalStateException" ["java/lang/RuntimeException", "java/lang/Exception"]).filter goodWord, w ∈ wsX5_shine := fun _ h => List.mem_cons_of_mem _ (List.mem_append_left _ (List.mem_append_right _ h))
set_option maxHeartbeats 1000000 in
set_option maxRecDepth 100000 in
theorem cx_X5_shine2 (l : Launch) (hl0 : l.stackTraces = false) (G : zG) (sz : Nat) (a b : Nat → Nat) (x y1 y2 : Nat) (g : zF) (rc : Nat) (hrc : rc = 30) (x9 : Int32) (hok : 1 ≤ x9 ∧ x9 ≤ 40) : zMx zNi l yX5_shine wsX5_shine ({ frames := 6, cells := 1, slots := 6, locals := 82 } : Room) [.ref x, .int x9] G [(x, .inr (5, [.ref (a 0), .ref y1, .ref y2, .ref (b 0)])), ((a 0), .inr (4, [.int (g 0), .int (g 1), .int (g 2), .int (g 3), .int (g 4), .int (g 5), .int (g 6), .int (g 7), .int (g 8), .int (g 9), .ref (a 1), .ref (a 2), .ref (a 3), .ref (a 4)])), ((a 4), .inr (2, [.ref (a 8), .int (nI rc)]))] "java/lang/IllegalStateException" sz := by
  refine zMx_of (cc := cX5_shine) (maxL := 2) (ret := (some .int)) (by decide) rfl (Nat.le_of_ble_eq_true rfl) ?_
  intro p e s m args below meth c A ls hx hb hr hml hts hown hlocks hnm hK hP hD hAe hS hA hl hsz hZ hte
  have hown : s.vm.findClass RX5 = some m.cls := hown
  have hP : va_P G.1 vwCl [(x, .inr (5, [.ref (a 0), .ref y1, .ref y2, .ref (b 0)])), ((a 0), .inr (4, [.int (g 0), .int (g 1), .int (g 2), .int (g 3), .int (g 4), .int (g 5), .int (g 6), .int (g 7), .int (g 8), .int (g 9), .ref (a 1), .ref (a 2), .ref (a 3), .ref (a 4)])), ((a 4), .inr (2, [.ref (a 8), .int (nI rc)]))] s.heap := hP
  have hD : va_D A [(x, .inr (5, [.ref (a 0), .ref y1, .ref y2, .ref (b 0)])), ((a 0), .inr (4, [.int (g 0), .int (g 1), .int (g 2), .int (g 3), .int (g 4), .int (g 5), .int (g 6), .int (g 7), .int (g 8), .int (g 9), .ref (a 1), .ref (a 2), .ref (a 3), .ref (a 4)])), ((a 4), .inr (2, [.ref (a 8), .int (nI rc)]))] := hD
  have hl : lv_has ls 2 [(0, .ref x), (1, .int x9)] := hl
  refine lv_iload_n hx hb dX5_shine_0 rfl (lv_at hl 1 rfl) ?_
  refine lv_iconst (v := 1) hx hb dX5_shine_1 (by decide) ?_
  refine lv_bipush (v := 40) hx hb dX5_shine_2 (by decide) ?_
  have hPc := hP.sub (ws' := []) [] rfl
  have hDc := hD.sub (ws' := []) [] (by decide) rfl
  refine z_calli (wr := [(x, .inr (5, [.ref (a 0), .ref y1, .ref y2, .ref (b 0)])), ((a 0), .inr (4, [.int (g 0), .int (g 1), .int (g 2), .int (g 3), .int (g 4), .int (g 5), .int (g 6), .int (g 7), .int (g 8), .int (g 9), .ref (a 1), .ref (a 2), .ref (a 3), .ref (a 4)])), ((a 4), .inr (2, [.ref (a 8), .int (nI rc)]))]) (va_runS (As := [.int x9, .int 1, .int 40]) (rest := []) ⟨hx, hb, hml, hown, hts⟩ (c_X5_isWithin l G s.heap.size x9 1 40) (va_cwS 3 hts gX5_shine_X5_isWithin rfl rfl rfl (by decide +kernel) ⟨(Nat.le_of_ble_eq_true rfl), (Nat.le_of_ble_eq_true rfl)⟩) (zS hK hPc hDc) rfl rfl hl.1 rfl (lv_room (Nat.le_of_ble_eq_true rfl)) dX5_shine_4 ⟨(Nat.le_of_ble_eq_true rfl), (Nat.le_of_ble_eq_true rfl)⟩) hP hD hS hA [] [0, 1, 2] rfl rfl (by decide) (by decide) (fun r_1 u_1 H locs hw_1 hP hD hS => ?_)
  subst hw_1
  have hP : va_P G.1 vwCl [(x, .inr (5, [.ref (a 0), .ref y1, .ref y2, .ref (b 0)])), ((a 0), .inr (4, [.int (g 0), .int (g 1), .int (g 2), .int (g 3), .int (g 4), .int (g 5), .int (g 6), .int (g 7), .int (g 8), .int (g 9), .ref (a 1), .ref (a 2), .ref (a 3), .ref (a 4)])), ((a 4), .inr (2, [.ref (a 8), .int (nI rc)]))] H := hP
  have hD : va_D A [(x, .inr (5, [.ref (a 0), .ref y1, .ref y2, .ref (b 0)])), ((a 0), .inr (4, [.int (g 0), .int (g 1), .int (g 2), .int (g 3), .int (g 4), .int (g 5), .int (g 6), .int (g 7), .int (g 8), .int (g 9), .ref (a 1), .ref (a 2), .ref (a 3), .ref (a 4)])), ((a 4), .inr (2, [.ref (a 8), .int (nI rc)]))] := hD
  refine z_top (if_pos hok) ?_
  have hPc := hP.sub (ws' := []) [] rfl
  have hDc := hD.sub (ws' := []) [] (by decide) rfl
  refine z_callv (wr := [(x, .inr (5, [.ref (a 0), .ref y1, .ref y2, .ref (b 0)])), ((a 0), .inr (4, [.int (g 0), .int (g 1), .int (g 2), .int (g 3), .int (g 4), .int (g 5), .int (g 6), .int (g 7), .int (g 8), .int (g 9), .ref (a 1), .ref (a 2), .ref (a 3), .ref (a 4)])), ((a 4), .inr (2, [.ref (a 8), .int (nI rc)]))]) (va_runS (As := [.int 1]) (rest := []) ⟨hx, hb, hml, hown, hts⟩ (c_X5_checkArgument l G H.size) (va_cwS 1 hts gX5_shine_X5_checkArgument rfl rfl rfl (by decide +kernel) ⟨(Nat.le_of_ble_eq_true rfl), (Nat.le_of_ble_eq_true rfl)⟩) (zS hK hPc hDc) rfl rfl hl.1 rfl (lv_room (Nat.le_of_ble_eq_true rfl)) dX5_shine_7 ⟨(Nat.le_of_ble_eq_true rfl), (Nat.le_of_ble_eq_true rfl)⟩) hP hD hS hA [] [0, 1, 2] rfl rfl (by decide) (by decide) (fun u_2 H locs hw_2 hP hD hS => ?_)
  have hP : va_P G.1 vwCl [(x, .inr (5, [.ref (a 0), .ref y1, .ref y2, .ref (b 0)])), ((a 0), .inr (4, [.int (g 0), .int (g 1), .int (g 2), .int (g 3), .int (g 4), .int (g 5), .int (g 6), .int (g 7), .int (g 8), .int (g 9), .ref (a 1), .ref (a 2), .ref (a 3), .ref (a 4)])), ((a 4), .inr (2, [.ref (a 8), .int (nI rc)]))] H := hP
  have hD : va_D A [(x, .inr (5, [.ref (a 0), .ref y1, .ref y2, .ref (b 0)])), ((a 0), .inr (4, [.int (g 0), .int (g 1), .int (g 2), .int (g 3), .int (g 4), .int (g 5), .int (g 6), .int (g 7), .int (g 8), .int (g 9), .ref (a 1), .ref (a 2), .ref (a 3), .ref (a 4)])), ((a 4), .inr (2, [.ref (a 8), .int (nI rc)]))] := hD
  refine lv_aload_n hx hb dX5_shine_10 rfl (lv_at hl 0 rfl) ?_
  refine va_get (D := G.1) (ci := 5) (v := .ref (a 0)) (C := RX5) (T := TX5) (N := 4) hx hb hts zi_X5_shine_X5 hown hK.1 hP 0 rfl rfl 0 (by decide) (hts _ zw_X5_shine_f12) (fun _ h9 => h9) rfl dX5_shine_11 ?_
  refine va_getN (D := G.1) (ci := 4) (v := .ref (a 4)) (C := RX4) (T := TX4) (N := 14) hx hb hts zi_X5_shine_X4 hown hK.1 hP 1 rfl rfl 13 (by decide) (zn_0 hK) (fun _ h9 => h9) rfl dX5_shine_14 ?_
  refine va_getN (D := G.1) (ci := 2) (v := .int (nI rc)) (C := RX2) (T := TX2) (N := 2) hx hb hts zi_X5_shine_X2 hown hK.1 hP 2 rfl rfl 1 (by decide) (zn_1 hK) (fun _ h9 => h9) rfl dX5_shine_17 ?_
  refine lv_bipush (v := 30) hx hb dX5_shine_20 (by decide) ?_
  refine lv_icmp_lt (tgt := 35) hx hb dX5_shine_22 (by decide) (fun c_3 => ?_) (fun c_3 => ?_)
  · exact absurd ((z_lt (a := rc) (b := 30) rfl rfl (by omega) (by omega)).mp c_3) (by omega)
  · exact z_throw hl0 hx hb hown (by decide +kernel) (hts _ zw_X5_shine_cl67) (hts _ zw_X5_shine_in_IllegalStateException) (zst_1 hK) (fun w h => hts w (zx_X5_shine_71 w h)) zg2_IllegalStateException zgo_67_71 (by decide +kernel) hZ hP hD hS (hl.1.trans hml.symm) hte dX5_shine_25 dX5_shine_28 dX5_shine_29 dX5_shine_31 dX5_shine_34 (Nat.le_of_ble_eq_true rfl) (Nat.le_of_ble_eq_true rfl) (Nat.le_of_ble_eq_true rfl) (Nat.le_of_ble_eq_true rfl) hlocks (Nat.le_of_ble_eq_true rfl) (Nat.le_of_ble_eq_true rfl)
theorem zw_X5_append_f26 : Cond.fieldLink RX5 26 "LightReceiver" "text" "LLightReceiver$LightText;" ∈ wsX5_append := by decide +kernel
theorem zi_X5_append_X5 : ∀ w ∈ wsX50, w ∈ wsX5_append := fun _ h => List.mem_cons_of_mem _ (List.mem_append_left _ (List.mem_append_left _ (List.mem_append_left _ (List.mem_append_left _ (List.mem_append_right _ h)))))
theorem zi_X5_append_X1 : ∀ w ∈ wsX10, w ∈ wsX5_append := fun _ h => List.mem_cons_of_mem _ (List.mem_append_left _ (List.mem_append_left _ (List.mem_append_left _ (List.mem_append_right _ h))))
theorem zi_X5_append_X2 : ∀ w ∈ wsX20, w ∈ wsX5_append := fun _ h => List.mem_cons_of_mem _ (List.mem_append_left _ (List.mem_append_left _ (List.mem_append_right _ h)))
theorem zw_X5_append_cl67 : Cond.classLink RX5 67 "java/lang/IllegalStateException" ∈ wsX5_append := by decide +kernel
theorem zw_X5_append_in_IllegalStateException : Cond.initialized "java/lang/IllegalStateException" ∈ wsX5_append := by decide +kernel
theorem zx_X5_append_71 : ∀ w ∈ (vx_atS RX5 71 "java/lang/IllegalStateException" ["java/lang/RuntimeException", "java/lang/Exception"]).filter goodWord, w ∈ wsX5_append := fun _ h => List.mem_cons_of_mem _ (List.mem_append_left _ (List.mem_append_right _ h))
set_option maxHeartbeats 1000000 in
set_option maxRecDepth 100000 in
theorem cx_X5_append2 (l : Launch) (hl0 : l.stackTraces = false) (G : zG) (sz : Nat) (a b : Nat → Nat) (x y1 y2 : Nat) (tr tv tn : Nat) (htn : tn = 60) (x9 : Int32) (hok : 33 ≤ x9 ∧ x9 ≤ 126) : zMx zNi l yX5_append wsX5_append ({ frames := 6, cells := 1, slots := 6, locals := 82 } : Room) [.ref x, .int x9] G [(x, .inr (5, [.ref (a 0), .ref y1, .ref y2, .ref (b 0)])), (y2, .inr (1, [.ref tr])), (tr, .inr (2, [.ref tv, .int (nI tn)]))] "java/lang/IllegalStateException" sz := by
  refine zMx_of (cc := cX5_append) (maxL := 2) (ret := (some .int)) (by decide) rfl (Nat.le_of_ble_eq_true rfl) ?_
  intro p e s m args below meth c A ls hx hb hr hml hts hown hlocks hnm hK hP hD hAe hS hA hl hsz hZ hte
  have hown : s.vm.findClass RX5 = some m.cls := hown
  have hP : va_P G.1 vwCl [(x, .inr (5, [.ref (a 0), .ref y1, .ref y2, .ref (b 0)])), (y2, .inr (1, [.ref tr])), (tr, .inr (2, [.ref tv, .int (nI tn)]))] s.heap := hP
  have hD : va_D A [(x, .inr (5, [.ref (a 0), .ref y1, .ref y2, .ref (b 0)])), (y2, .inr (1, [.ref tr])), (tr, .inr (2, [.ref tv, .int (nI tn)]))] := hD
  have hl : lv_has ls 2 [(0, .ref x), (1, .int x9)] := hl
  refine lv_iload_n hx hb dX5_append_0 rfl (lv_at hl 1 rfl) ?_
  refine lv_bipush (v := 33) hx hb dX5_append_1 (by decide) ?_
  refine lv_bipush (v := 126) hx hb dX5_append_3 (by decide) ?_
  have hPc := hP.sub (ws' := []) [] rfl
  have hDc := hD.sub (ws' := []) [] (by decide) rfl
  refine z_calli (wr := [(x, .inr (5, [.ref (a 0), .ref y1, .ref y2, .ref (b 0)])), (y2, .inr (1, [.ref tr])), (tr, .inr (2, [.ref tv, .int (nI tn)]))]) (va_runS (As := [.int x9, .int 33, .int 126]) (rest := []) ⟨hx, hb, hml, hown, hts⟩ (c_X5_isWithin l G s.heap.size x9 33 126) (va_cwS 3 hts gX5_append_X5_isWithin rfl rfl rfl (by decide +kernel) ⟨(Nat.le_of_ble_eq_true rfl), (Nat.le_of_ble_eq_true rfl)⟩) (zS hK hPc hDc) rfl rfl hl.1 rfl (lv_room (Nat.le_of_ble_eq_true rfl)) dX5_append_5 ⟨(Nat.le_of_ble_eq_true rfl), (Nat.le_of_ble_eq_true rfl)⟩) hP hD hS hA [] [0, 1, 2] rfl rfl (by decide) (by decide) (fun r_1 u_1 H locs hw_1 hP hD hS => ?_)
  subst hw_1
  have hP : va_P G.1 vwCl [(x, .inr (5, [.ref (a 0), .ref y1, .ref y2, .ref (b 0)])), (y2, .inr (1, [.ref tr])), (tr, .inr (2, [.ref tv, .int (nI tn)]))] H := hP
  have hD : va_D A [(x, .inr (5, [.ref (a 0), .ref y1, .ref y2, .ref (b 0)])), (y2, .inr (1, [.ref tr])), (tr, .inr (2, [.ref tv, .int (nI tn)]))] := hD
  refine z_top (if_pos hok) ?_
  have hPc := hP.sub (ws' := []) [] rfl
  have hDc := hD.sub (ws' := []) [] (by decide) rfl
  refine z_callv (wr := [(x, .inr (5, [.ref (a 0), .ref y1, .ref y2, .ref (b 0)])), (y2, .inr (1, [.ref tr])), (tr, .inr (2, [.ref tv, .int (nI tn)]))]) (va_runS (As := [.int 1]) (rest := []) ⟨hx, hb, hml, hown, hts⟩ (c_X5_checkArgument l G H.size) (va_cwS 1 hts gX5_append_X5_checkArgument rfl rfl rfl (by decide +kernel) ⟨(Nat.le_of_ble_eq_true rfl), (Nat.le_of_ble_eq_true rfl)⟩) (zS hK hPc hDc) rfl rfl hl.1 rfl (lv_room (Nat.le_of_ble_eq_true rfl)) dX5_append_8 ⟨(Nat.le_of_ble_eq_true rfl), (Nat.le_of_ble_eq_true rfl)⟩) hP hD hS hA [] [0, 1, 2] rfl rfl (by decide) (by decide) (fun u_2 H locs hw_2 hP hD hS => ?_)
  have hP : va_P G.1 vwCl [(x, .inr (5, [.ref (a 0), .ref y1, .ref y2, .ref (b 0)])), (y2, .inr (1, [.ref tr])), (tr, .inr (2, [.ref tv, .int (nI tn)]))] H := hP
  have hD : va_D A [(x, .inr (5, [.ref (a 0), .ref y1, .ref y2, .ref (b 0)])), (y2, .inr (1, [.ref tr])), (tr, .inr (2, [.ref tv, .int (nI tn)]))] := hD
  refine lv_aload_n hx hb dX5_append_11 rfl (lv_at hl 0 rfl) ?_
  refine va_get (D := G.1) (ci := 5) (v := .ref y2) (C := RX5) (T := TX5) (N := 4) hx hb hts zi_X5_append_X5 hown hK.1 hP 0 rfl rfl 2 (by decide) (hts _ zw_X5_append_f26) (fun _ h9 => h9) rfl dX5_append_12 ?_
  refine va_getN (D := G.1) (ci := 1) (v := .ref tr) (C := RX1) (T := TX1) (N := 1) hx hb hts zi_X5_append_X1 hown hK.1 hP 1 rfl rfl 0 (by decide) (zn_14 hK) (fun _ h9 => h9) rfl dX5_append_15 ?_
  refine va_getN (D := G.1) (ci := 2) (v := .int (nI tn)) (C := RX2) (T := TX2) (N := 2) hx hb hts zi_X5_append_X2 hown hK.1 hP 2 rfl rfl 1 (by decide) (zn_1 hK) (fun _ h9 => h9) rfl dX5_append_18 ?_
  refine lv_bipush (v := 60) hx hb dX5_append_21 (by decide) ?_
  refine lv_icmp_lt (tgt := 36) hx hb dX5_append_23 (by decide) (fun c_3 => ?_) (fun c_3 => ?_)
  · exact absurd ((z_lt (a := tn) (b := 60) rfl rfl (by omega) (by omega)).mp c_3) (by omega)
  · exact z_throw hl0 hx hb hown (by decide +kernel) (hts _ zw_X5_append_cl67) (hts _ zw_X5_append_in_IllegalStateException) (zst_2 hK) (fun w h => hts w (zx_X5_append_71 w h)) zg2_IllegalStateException zgo_67_71 (by decide +kernel) hZ hP hD hS (hl.1.trans hml.symm) hte dX5_append_26 dX5_append_29 dX5_append_30 dX5_append_32 dX5_append_35 (Nat.le_of_ble_eq_true rfl) (Nat.le_of_ble_eq_true rfl) (Nat.le_of_ble_eq_true rfl) (Nat.le_of_ble_eq_true rfl) hlocks (Nat.le_of_ble_eq_true rfl) (Nat.le_of_ble_eq_true rfl)
theorem zw_X5_undo_f19 : Cond.fieldLink RX5 19 "LightReceiver" "saves" "LLightReceiver$Saves;" ∈ wsX5_undo := by decide +kernel
theorem zi_X5_undo_X5 : ∀ w ∈ wsX50, w ∈ wsX5_undo := fun _ h => List.mem_cons_of_mem _ (List.mem_append_left _ (List.mem_append_left _ (List.mem_append_left _ (List.mem_append_left _ (List.mem_append_right _ h)))))
theorem zi_X5_undo_X3 : ∀ w ∈ wsX30, w ∈ wsX5_undo := fun _ h => List.mem_cons_of_mem _ (List.mem_append_left _ (List.mem_append_left _ (List.mem_append_left _ (List.mem_append_right _ h))))
theorem zw_X5_undo_cl67 : Cond.classLink RX5 67 "java/lang/IllegalStateException" ∈ wsX5_undo := by decide +kernel
theorem zw_X5_undo_in_IllegalStateException : Cond.initialized "java/lang/IllegalStateException" ∈ wsX5_undo := by decide +kernel
theorem zx_X5_undo_71 : ∀ w ∈ (vx_atS RX5 71 "java/lang/IllegalStateException" ["java/lang/RuntimeException", "java/lang/Exception"]).filter goodWord, w ∈ wsX5_undo := fun _ h => List.mem_cons_of_mem _ (List.mem_append_right _ h)
set_option maxHeartbeats 1000000 in
set_option maxRecDepth 100000 in
theorem cx_X5_undo (l : Launch) (hl0 : l.stackTraces = false) (G : zG) (sz : Nat) (a b : Nat → Nat) (x y1 y2 : Nat) (ya : Nat) : zMx zNi l yX5_undo wsX5_undo ({ frames := 6, cells := 1, slots := 6, locals := 82 } : Room) [.ref x] G [(x, .inr (5, [.ref (a 0), .ref y1, .ref y2, .ref (b 0)])), (y1, .inr (3, [.ref ya, .int 0]))] "java/lang/IllegalStateException" sz := by
  refine zMx_of (cc := cX5_undo) (maxL := 1) (ret := (some .int)) (by decide) rfl (Nat.le_of_ble_eq_true rfl) ?_
  intro p e s m args below meth c A ls hx hb hr hml hts hown hlocks hnm hK hP hD hAe hS hA hl hsz hZ hte
  have hown : s.vm.findClass RX5 = some m.cls := hown
  have hP : va_P G.1 vwCl [(x, .inr (5, [.ref (a 0), .ref y1, .ref y2, .ref (b 0)])), (y1, .inr (3, [.ref ya, .int 0]))] s.heap := hP
  have hD : va_D A [(x, .inr (5, [.ref (a 0), .ref y1, .ref y2, .ref (b 0)])), (y1, .inr (3, [.ref ya, .int 0]))] := hD
  have hl : lv_has ls 1 [(0, .ref x)] := hl
  refine lv_aload_n hx hb dX5_undo_0 rfl (lv_at hl 0 rfl) ?_
  refine va_get (D := G.1) (ci := 5) (v := .ref y1) (C := RX5) (T := TX5) (N := 4) hx hb hts zi_X5_undo_X5 hown hK.1 hP 0 rfl rfl 1 (by decide) (hts _ zw_X5_undo_f19) (fun _ h9 => h9) rfl dX5_undo_1 ?_
  refine va_getN (D := G.1) (ci := 3) (v := .int 0) (C := RX3) (T := TX3) (N := 2) hx hb hts zi_X5_undo_X3 hown hK.1 hP 1 rfl rfl 1 (by decide) (zn_15 hK) (fun _ h9 => h9) rfl dX5_undo_4 ?_
  refine lv_if_ne (tgt := 20) hx hb dX5_undo_7 (by decide) (fun c_1 => ?_) (fun c_1 => ?_)
  · exact absurd rfl c_1
  · exact z_throw hl0 hx hb hown (by decide +kernel) (hts _ zw_X5_undo_cl67) (hts _ zw_X5_undo_in_IllegalStateException) (zst_3 hK) (fun w h => hts w (zx_X5_undo_71 w h)) zg2_IllegalStateException zgo_67_71 (by decide +kernel) hZ hP hD hS (hl.1.trans hml.symm) hte dX5_undo_10 dX5_undo_13 dX5_undo_14 dX5_undo_16 dX5_undo_19 (Nat.le_of_ble_eq_true rfl) (Nat.le_of_ble_eq_true rfl) (Nat.le_of_ble_eq_true rfl) (Nat.le_of_ble_eq_true rfl) hlocks (Nat.le_of_ble_eq_true rfl) (Nat.le_of_ble_eq_true rfl)
end
