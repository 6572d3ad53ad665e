section
set_option maxHeartbeats 1000000 in
set_option maxRecDepth 100000 in
theorem c_X5_checkArgument (l : Launch) (G : zG) (sz : Nat)  : zMv l yX5_checkArgument wsX5_checkArgument ({ frames := 0, cells := 0, slots := 0, locals := 0 } : Room) [.int 1] G [] (fun (_ : Unit) => True) (fun _ => []) sz 0 0 := by
  refine zMv_of (cc := cX5_checkArgument) (maxL := 1) (ret := none) (by decide) rfl (Nat.le_of_ble_eq_true rfl) ?_
  intro p e s m args below meth c A ls hx hb hr hml hts hown hlocks hnm hK hP hD hAe hS hA hl hsz
  have hown : s.vm.findClass RX5 = some m.cls := hown
  have hP : va_P G.1 vwCl [] s.heap := hP
  have hD : va_D A [] := hD
  have hl : lv_has ls 1 [(0, .int 1)] := hl
  refine lv_iload_n hx hb dX5_checkArgument_0 rfl (lv_at hl 0 rfl) ?_
  refine lv_if_ne (tgt := 14) hx hb dX5_checkArgument_1 (by decide) (fun c_1 => ?_) (fun c_1 => ?_)
  · have hP9 := hP.sub (ws' := []) [] rfl
    have hD9 := hD.sub (ws' := []) [] (by decide) rfl
    exact z_vret hx hb hr hlocks () hP9 hD9 hS (Nat.le_of_ble_eq_true rfl) (Nat.le_of_ble_eq_true rfl) dX5_checkArgument_14 trivial
  · exact absurd c_1 (by decide)
theorem zgo_224_228 : ∀ w ∈ Cond.classLink RX5 224 "java/lang/IllegalArgumentException" :: Cond.initialized "java/lang/IllegalArgumentException" :: vx_atS RX5 228 "java/lang/IllegalArgumentException" ["java/lang/RuntimeException", "java/lang/Exception"], vx_ot w = true := by decide +kernel
theorem zw_X5_checkArgument_cl224 : Cond.classLink RX5 224 "java/lang/IllegalArgumentException" ∈ wsX5_checkArgument := by decide +kernel
theorem zw_X5_checkArgument_in_IllegalArgumentException : Cond.initialized "java/lang/IllegalArgumentException" ∈ wsX5_checkArgument := by decide +kernel
theorem zx_X5_checkArgument_228 : ∀ w ∈ (vx_atS RX5 228 "java/lang/IllegalArgumentException" ["java/lang/RuntimeException", "java/lang/Exception"]).filter goodWord, w ∈ wsX5_checkArgument := fun _ h => List.mem_cons_of_mem _ (List.mem_append_right _ h)
set_option maxHeartbeats 1000000 in
set_option maxRecDepth 100000 in
theorem cx_X5_checkArgument (l : Launch) (hl0 : l.stackTraces = false) (G : zG) (sz : Nat)  : zMx zNv l yX5_checkArgument wsX5_checkArgument ({ frames := 6, cells := 1, slots := 6, locals := 82 } : Room) [.int 0] G [] "java/lang/IllegalArgumentException" sz := by
  refine zMx_of (cc := cX5_checkArgument) (maxL := 1) (ret := none) (by decide) rfl (Nat.le_of_ble_eq_true rfl) ?_
  intro p e s m args below meth c A ls hx hb hr hml hts hown hlocks hnm hK hP hD hAe hS hA hl hsz hZ hte
  have hown : s.vm.findClass RX5 = some m.cls := hown
  have hP : va_P G.1 vwCl [] s.heap := hP
  have hD : va_D A [] := hD
  have hl : lv_has ls 1 [(0, .int 0)] := hl
  refine lv_iload_n hx hb dX5_checkArgument_0 rfl (lv_at hl 0 rfl) ?_
  refine lv_if_ne (tgt := 14) hx hb dX5_checkArgument_1 (by decide) (fun c_1 => ?_) (fun c_1 => ?_)
  · exact absurd rfl c_1
  · exact z_throw hl0 hx hb hown (by decide +kernel) (hts _ zw_X5_checkArgument_cl224) (hts _ zw_X5_checkArgument_in_IllegalArgumentException) (zst_4 hK) (fun w h => hts w (zx_X5_checkArgument_228 w h)) zg2_IllegalArgumentException zgo_224_228 (by decide +kernel) hZ hP hD hS (hl.1.trans hml.symm) hte dX5_checkArgument_4 dX5_checkArgument_7 dX5_checkArgument_8 dX5_checkArgument_10 dX5_checkArgument_13 (Nat.le_of_ble_eq_true rfl) (Nat.le_of_ble_eq_true rfl) (Nat.le_of_ble_eq_true rfl) (Nat.le_of_ble_eq_true rfl) hlocks (Nat.le_of_ble_eq_true rfl) (Nat.le_of_ble_eq_true rfl)
set_option maxHeartbeats 1000000 in
set_option maxRecDepth 100000 in
theorem c_X5_checkIndex (l : Launch) (G : zG) (sz : Nat)  : zMv l yX5_checkIndex wsX5_checkIndex ({ frames := 0, cells := 0, slots := 0, locals := 0 } : Room) [.int 1] G [] (fun (_ : Unit) => True) (fun _ => []) sz 0 0 := by
  refine zMv_of (cc := cX5_checkIndex) (maxL := 1) (ret := none) (by decide) rfl (Nat.le_of_ble_eq_true rfl) ?_
  intro p e s m args below meth c A ls hx hb hr hml hts hown hlocks hnm hK hP hD hAe hS hA hl hsz
  have hown : s.vm.findClass RX5 = some m.cls := hown
  have hP : va_P G.1 vwCl [] s.heap := hP
  have hD : va_D A [] := hD
  have hl : lv_has ls 1 [(0, .int 1)] := hl
  refine lv_iload_n hx hb dX5_checkIndex_0 rfl (lv_at hl 0 rfl) ?_
  refine lv_if_ne (tgt := 14) hx hb dX5_checkIndex_1 (by decide) (fun c_1 => ?_) (fun c_1 => ?_)
  · have hP9 := hP.sub (ws' := []) [] rfl
    have hD9 := hD.sub (ws' := []) [] (by decide) rfl
    exact z_vret hx hb hr hlocks () hP9 hD9 hS (Nat.le_of_ble_eq_true rfl) (Nat.le_of_ble_eq_true rfl) dX5_checkIndex_14 trivial
  · exact absurd c_1 (by decide)
theorem zgo_229_233 : ∀ w ∈ Cond.classLink RX5 229 "java/lang/IndexOutOfBoundsException" :: Cond.initialized "java/lang/IndexOutOfBoundsException" :: vx_atS RX5 233 "java/lang/IndexOutOfBoundsException" ["java/lang/RuntimeException", "java/lang/Exception"], vx_ot w = true := by decide +kernel
theorem zw_X5_checkIndex_cl229 : Cond.classLink RX5 229 "java/lang/IndexOutOfBoundsException" ∈ wsX5_checkIndex := by decide +kernel
theorem zw_X5_checkIndex_in_IndexOutOfBoundsException : Cond.initialized "java/lang/IndexOutOfBoundsException" ∈ wsX5_checkIndex := by decide +kernel
theorem zx_X5_checkIndex_233 : ∀ w ∈ (vx_atS RX5 233 "java/lang/IndexOutOfBoundsException" ["java/lang/RuntimeException", "java/lang/Exception"]).filter goodWord, w ∈ wsX5_checkIndex := fun _ h => List.mem_cons_of_mem _ (List.mem_append_right _ h)
set_option maxHeartbeats 1000000 in
set_option maxRecDepth 100000 in
theorem cx_X5_checkIndex (l : Launch) (hl0 : l.stackTraces = false) (G : zG) (sz : Nat)  : zMx zNv l yX5_checkIndex wsX5_checkIndex ({ frames := 6, cells := 1, slots := 6, locals := 82 } : Room) [.int 0] G [] "java/lang/IndexOutOfBoundsException" sz := by
  refine zMx_of (cc := cX5_checkIndex) (maxL := 1) (ret := none) (by decide) rfl (Nat.le_of_ble_eq_true rfl) ?_
  intro p e s m args below meth c A ls hx hb hr hml hts hown hlocks hnm hK hP hD hAe hS hA hl hsz hZ hte
  have hown : s.vm.findClass RX5 = some m.cls := hown
  have hP : va_P G.1 vwCl [] s.heap := hP
  have hD : va_D A [] := hD
  have hl : lv_has ls 1 [(0, .int 0)] := hl
  refine lv_iload_n hx hb dX5_checkIndex_0 rfl (lv_at hl 0 rfl) ?_
  refine lv_if_ne (tgt := 14) hx hb dX5_checkIndex_1 (by decide) (fun c_1 => ?_) (fun c_1 => ?_)
  · exact absurd rfl c_1
  · exact z_throw hl0 hx hb hown (by decide +kernel) (hts _ zw_X5_checkIndex_cl229) (hts _ zw_X5_checkIndex_in_IndexOutOfBoundsException) (zst_5 hK) (fun w h => hts w (zx_X5_checkIndex_233 w h)) zg2_IndexOutOfBoundsException zgo_229_233 (by decide +kernel) hZ hP hD hS (hl.1.trans hml.symm) hte dX5_checkIndex_4 dX5_checkIndex_7 dX5_checkIndex_8 dX5_checkIndex_10 dX5_checkIndex_13 (Nat.le_of_ble_eq_true rfl) (Nat.le_of_ble_eq_true rfl) (Nat.le_of_ble_eq_true rfl) (Nat.le_of_ble_eq_true rfl) hlocks (Nat.le_of_ble_eq_true rfl) (Nat.le_of_ble_eq_true rfl)
set_option maxHeartbeats 1000000 in
set_option maxRecDepth 100000 in
theorem c_X5_checkFrame (l : Launch) (G : zG) (sz : Nat) (x9 y9 z9 : Int32) (hok : (0 ≤ x9 ∧ x9 ≤ 7) ∧ (0 ≤ y9 ∧ y9 ≤ 15) ∧ (0 ≤ z9 ∧ z9 ≤ 1)) : zMv l yX5_checkFrame wsX5_checkFrame ({ frames := 1, cells := 0, slots := 0, locals := 22 } : Room) [.int x9, .int y9, .int z9] G [] (fun (_ : Unit) => True) (fun _ => []) sz 0 0 := by
  refine zMv_of (cc := cX5_checkFrame) (maxL := 3) (ret := none) (by decide) rfl (Nat.le_of_ble_eq_true rfl) ?_
  intro p e s m args below meth c A ls hx hb hr hml hts hown hlocks hnm hK hP hD hAe hS hA hl hsz
  have hown : s.vm.findClass RX5 = some m.cls := hown
  have hP : va_P G.1 vwCl [] s.heap := hP
  have hD : va_D A [] := hD
  have hl : lv_has ls 3 [(0, .int x9), (1, .int y9), (2, .int z9)] := hl
  refine lv_iload_n hx hb dX5_checkFrame_0 rfl (lv_at hl 0 rfl) ?_
  refine lv_iconst (v := 0) hx hb dX5_checkFrame_1 (by decide) ?_
  refine lv_bipush (v := 7) hx hb dX5_checkFrame_2 (by decide) ?_
  have hPc := hP.sub (ws' := []) [] rfl
  have hDc := hD.sub (ws' := []) [] (by decide) rfl
  refine z_calli (wr := []) (va_runS (As := [.int x9, .int 0, .int 7]) (rest := []) ⟨hx, hb, hml, hown, hts⟩ (c_X5_isWithin l G s.heap.size x9 0 7) (va_cwS 3 hts gX5_checkFrame_X5_isWithin rfl rfl rfl (by decide +kernel) ⟨(Nat.le_of_ble_eq_true rfl), (Nat.le_of_ble_eq_true rfl)⟩) (zS hK hPc hDc) rfl rfl hl.1 rfl (lv_room (Nat.le_of_ble_eq_true rfl)) dX5_checkFrame_4 ⟨(Nat.le_of_ble_eq_true rfl), (Nat.le_of_ble_eq_true rfl)⟩) hP hD hS hA [] [] rfl rfl (by decide) (by decide) (fun r_1 u_1 H locs hw_1 hP hD hS => ?_)
  subst hw_1
  have hP : va_P G.1 vwCl [] H := hP
  have hD : va_D A [] := hD
  refine z_top (if_pos hok.1) ?_
  have hPc := hP.sub (ws' := []) [] rfl
  have hDc := hD.sub (ws' := []) [] (by decide) rfl
  refine z_callv (wr := []) (va_runS (As := [.int 1]) (rest := []) ⟨hx, hb, hml, hown, hts⟩ (c_X5_checkArgument l G H.size) (va_cwS 1 hts gX5_checkFrame_X5_checkArgument rfl rfl rfl (by decide +kernel) ⟨(Nat.le_of_ble_eq_true rfl), (Nat.le_of_ble_eq_true rfl)⟩) (zS hK hPc hDc) rfl rfl hl.1 rfl (lv_room (Nat.le_of_ble_eq_true rfl)) dX5_checkFrame_7 ⟨(Nat.le_of_ble_eq_true rfl), (Nat.le_of_ble_eq_true rfl)⟩) hP hD hS hA [] [] rfl rfl (by decide) (by decide) (fun u_2 H locs hw_2 hP hD hS => ?_)
  have hP : va_P G.1 vwCl [] H := hP
  have hD : va_D A [] := hD
  refine lv_iload_n hx hb dX5_checkFrame_10 rfl (lv_at hl 1 rfl) ?_
  refine lv_iconst (v := 0) hx hb dX5_checkFrame_11 (by decide) ?_
  refine lv_bipush (v := 15) hx hb dX5_checkFrame_12 (by decide) ?_
  have hPc := hP.sub (ws' := []) [] rfl
  have hDc := hD.sub (ws' := []) [] (by decide) rfl
  refine z_calli (wr := []) (va_runS (As := [.int y9, .int 0, .int 15]) (rest := []) ⟨hx, hb, hml, hown, hts⟩ (c_X5_isWithin l G H.size y9 0 15) (va_cwS 3 hts gX5_checkFrame_X5_isWithin rfl rfl rfl (by decide +kernel) ⟨(Nat.le_of_ble_eq_true rfl), (Nat.le_of_ble_eq_true rfl)⟩) (zS hK hPc hDc) rfl rfl hl.1 rfl (lv_room (Nat.le_of_ble_eq_true rfl)) dX5_checkFrame_14 ⟨(Nat.le_of_ble_eq_true rfl), (Nat.le_of_ble_eq_true rfl)⟩) hP hD hS hA [] [] rfl rfl (by decide) (by decide) (fun r_3 u_3 H locs hw_3 hP hD hS => ?_)
  subst hw_3
  have hP : va_P G.1 vwCl [] H := hP
  have hD : va_D A [] := hD
  refine z_top (if_pos hok.2.1) ?_
  have hPc := hP.sub (ws' := []) [] rfl
  have hDc := hD.sub (ws' := []) [] (by decide) rfl
  refine z_callv (wr := []) (va_runS (As := [.int 1]) (rest := []) ⟨hx, hb, hml, hown, hts⟩ (c_X5_checkArgument l G H.size) (va_cwS 1 hts gX5_checkFrame_X5_checkArgument rfl rfl rfl (by decide +kernel) ⟨(Nat.le_of_ble_eq_true rfl), (Nat.le_of_ble_eq_true rfl)⟩) (zS hK hPc hDc) rfl rfl hl.1 rfl (lv_room (Nat.le_of_ble_eq_true rfl)) dX5_checkFrame_17 ⟨(Nat.le_of_ble_eq_true rfl), (Nat.le_of_ble_eq_true rfl)⟩) hP hD hS hA [] [] rfl rfl (by decide) (by decide) (fun u_4 H locs hw_4 hP hD hS => ?_)
  have hP : va_P G.1 vwCl [] H := hP
  have hD : va_D A [] := hD
  refine lv_iload_n hx hb dX5_checkFrame_20 rfl (lv_at hl 2 rfl) ?_
  refine lv_iconst (v := 0) hx hb dX5_checkFrame_21 (by decide) ?_
  refine lv_iconst (v := 1) hx hb dX5_checkFrame_22 (by decide) ?_
  have hPc := hP.sub (ws' := []) [] rfl
  have hDc := hD.sub (ws' := []) [] (by decide) rfl
  refine z_calli (wr := []) (va_runS (As := [.int z9, .int 0, .int 1]) (rest := []) ⟨hx, hb, hml, hown, hts⟩ (c_X5_isWithin l G H.size z9 0 1) (va_cwS 3 hts gX5_checkFrame_X5_isWithin rfl rfl rfl (by decide +kernel) ⟨(Nat.le_of_ble_eq_true rfl), (Nat.le_of_ble_eq_true rfl)⟩) (zS hK hPc hDc) rfl rfl hl.1 rfl (lv_room (Nat.le_of_ble_eq_true rfl)) dX5_checkFrame_23 ⟨(Nat.le_of_ble_eq_true rfl), (Nat.le_of_ble_eq_true rfl)⟩) hP hD hS hA [] [] rfl rfl (by decide) (by decide) (fun r_5 u_5 H locs hw_5 hP hD hS => ?_)
  subst hw_5
  have hP : va_P G.1 vwCl [] H := hP
  have hD : va_D A [] := hD
  refine z_top (if_pos hok.2.2) ?_
  have hPc := hP.sub (ws' := []) [] rfl
  have hDc := hD.sub (ws' := []) [] (by decide) rfl
  refine z_callv (wr := []) (va_runS (As := [.int 1]) (rest := []) ⟨hx, hb, hml, hown, hts⟩ (c_X5_checkArgument l G H.size) (va_cwS 1 hts gX5_checkFrame_X5_checkArgument rfl rfl rfl (by decide +kernel) ⟨(Nat.le_of_ble_eq_true rfl), (Nat.le_of_ble_eq_true rfl)⟩) (zS hK hPc hDc) rfl rfl hl.1 rfl (lv_room (Nat.le_of_ble_eq_true rfl)) dX5_checkFrame_26 ⟨(Nat.le_of_ble_eq_true rfl), (Nat.le_of_ble_eq_true rfl)⟩) hP hD hS hA [] [] rfl rfl (by decide) (by decide) (fun u_6 H locs hw_6 hP hD hS => ?_)
  have hP : va_P G.1 vwCl [] H := hP
  have hD : va_D A [] := hD
  have hP9 := hP.sub (ws' := []) [] rfl
  have hD9 := hD.sub (ws' := []) [] (by decide) rfl
  exact z_vret hx hb hr hlocks () hP9 hD9 hS (Nat.le_of_ble_eq_true rfl) (Nat.le_of_ble_eq_true rfl) dX5_checkFrame_29 trivial
set_option maxHeartbeats 1000000 in
set_option maxRecDepth 100000 in
theorem cx_X5_checkFrame (l : Launch) (hl0 : l.stackTraces = false) (G : zG) (sz : Nat) (x9 y9 z9 : Int32) (hbad : ¬ ((0 ≤ x9 ∧ x9 ≤ 7) ∧ (0 ≤ y9 ∧ y9 ≤ 15) ∧ (0 ≤ z9 ∧ z9 ≤ 1))) : zMx zNv l yX5_checkFrame wsX5_checkFrame ({ frames := 7, cells := 1, slots := 6, locals := 102 } : Room) [.int x9, .int y9, .int z9] G [] "java/lang/IllegalArgumentException" sz := by
  refine zMx_of (cc := cX5_checkFrame) (maxL := 3) (ret := none) (by decide) rfl (Nat.le_of_ble_eq_true rfl) ?_
  intro p e s m args below meth c A ls hx hb hr hml hts hown hlocks hnm hK hP hD hAe hS hA hl hsz hZ hte
  have hown : s.vm.findClass RX5 = some m.cls := hown
  have hP : va_P G.1 vwCl [] s.heap := hP
  have hD : va_D A [] := hD
  have hl : lv_has ls 3 [(0, .int x9), (1, .int y9), (2, .int z9)] := hl
  refine lv_iload_n hx hb dX5_checkFrame_0 rfl (lv_at hl 0 rfl) ?_
  refine lv_iconst (v := 0) hx hb dX5_checkFrame_1 (by decide) ?_
  refine lv_bipush (v := 7) hx hb dX5_checkFrame_2 (by decide) ?_
  have hPc := hP.sub (ws' := []) [] rfl
  have hDc := hD.sub (ws' := []) [] (by decide) rfl
  refine z_calli (wr := []) (va_runS (As := [.int x9, .int 0, .int 7]) (rest := []) ⟨hx, hb, hml, hown, hts⟩ (c_X5_isWithin l G s.heap.size x9 0 7) (va_cwS 3 hts gX5_checkFrame_X5_isWithin rfl rfl rfl (by decide +kernel) ⟨(Nat.le_of_ble_eq_true rfl), (Nat.le_of_ble_eq_true rfl)⟩) (zS hK hPc hDc) rfl rfl hl.1 rfl (lv_room (Nat.le_of_ble_eq_true rfl)) dX5_checkFrame_4 ⟨(Nat.le_of_ble_eq_true rfl), (Nat.le_of_ble_eq_true rfl)⟩) hP hD hS hA [] [] rfl rfl (by decide) (by decide) (fun r_1 u_1 H locs hw_1 hP hD hS => ?_)
  subst hw_1
  have hP : va_P G.1 vwCl [] H := hP
  have hD : va_D A [] := hD
  by_cases q_2 : 0 ≤ x9 ∧ x9 ≤ 7
  · refine z_top (if_pos q_2) ?_
    have hPc := hP.sub (ws' := []) [] rfl
    have hDc := hD.sub (ws' := []) [] (by decide) rfl
    refine z_callv (wr := []) (va_runS (As := [.int 1]) (rest := []) ⟨hx, hb, hml, hown, hts⟩ (c_X5_checkArgument l G H.size) (va_cwS 1 hts gX5_checkFrame_X5_checkArgument rfl rfl rfl (by decide +kernel) ⟨(Nat.le_of_ble_eq_true rfl), (Nat.le_of_ble_eq_true rfl)⟩) (zS hK hPc hDc) rfl rfl hl.1 rfl (lv_room (Nat.le_of_ble_eq_true rfl)) dX5_checkFrame_7 ⟨(Nat.le_of_ble_eq_true rfl), (Nat.le_of_ble_eq_true rfl)⟩) hP hD hS hA [] [] rfl rfl (by decide) (by decide) (fun u_3 H locs hw_3 hP hD hS => ?_)
    have hP : va_P G.1 vwCl [] H := hP
    have hD : va_D A [] := hD
    refine lv_iload_n hx hb dX5_checkFrame_10 rfl (lv_at hl 1 rfl) ?_
    refine lv_iconst (v := 0) hx hb dX5_checkFrame_11 (by decide) ?_
    refine lv_bipush (v := 15) hx hb dX5_checkFrame_12 (by decide) ?_
    have hPc := hP.sub (ws' := []) [] rfl
    have hDc := hD.sub (ws' := []) [] (by decide) rfl
    refine z_calli (wr := []) (va_runS (As := [.int y9, .int 0, .int 15]) (rest := []) ⟨hx, hb, hml, hown, hts⟩ (c_X5_isWithin l G H.size y9 0 15) (va_cwS 3 hts gX5_checkFrame_X5_isWithin rfl rfl rfl (by decide +kernel) ⟨(Nat.le_of_ble_eq_true rfl), (Nat.le_of_ble_eq_true rfl)⟩) (zS hK hPc hDc) rfl rfl hl.1 rfl (lv_room (Nat.le_of_ble_eq_true rfl)) dX5_checkFrame_14 ⟨(Nat.le_of_ble_eq_true rfl), (Nat.le_of_ble_eq_true rfl)⟩) hP hD hS hA [] [] rfl rfl (by decide) (by decide) (fun r_4 u_4 H locs hw_4 hP hD hS => ?_)
    subst hw_4
    have hP : va_P G.1 vwCl [] H := hP
    have hD : va_D A [] := hD
    by_cases q_5 : 0 ≤ y9 ∧ y9 ≤ 15
    · refine z_top (if_pos q_5) ?_
      have hPc := hP.sub (ws' := []) [] rfl
      have hDc := hD.sub (ws' := []) [] (by decide) rfl
      refine z_callv (wr := []) (va_runS (As := [.int 1]) (rest := []) ⟨hx, hb, hml, hown, hts⟩ (c_X5_checkArgument l G H.size) (va_cwS 1 hts gX5_checkFrame_X5_checkArgument rfl rfl rfl (by decide +kernel) ⟨(Nat.le_of_ble_eq_true rfl), (Nat.le_of_ble_eq_true rfl)⟩) (zS hK hPc hDc) rfl rfl hl.1 rfl (lv_room (Nat.le_of_ble_eq_true rfl)) dX5_checkFrame_17 ⟨(Nat.le_of_ble_eq_true rfl), (Nat.le_of_ble_eq_true rfl)⟩) hP hD hS hA [] [] rfl rfl (by decide) (by decide) (fun u_6 H locs hw_6 hP hD hS => ?_)
      have hP : va_P G.1 vwCl [] H := hP
      have hD : va_D A [] := hD
      refine lv_iload_n hx hb dX5_checkFrame_20 rfl (lv_at hl 2 rfl) ?_
      refine lv_iconst (v := 0) hx hb dX5_checkFrame_21 (by decide) ?_
      refine lv_iconst (v := 1) hx hb dX5_checkFrame_22 (by decide) ?_
      have hPc := hP.sub (ws' := []) [] rfl
      have hDc := hD.sub (ws' := []) [] (by decide) rfl
      refine z_calli (wr := []) (va_runS (As := [.int z9, .int 0, .int 1]) (rest := []) ⟨hx, hb, hml, hown, hts⟩ (c_X5_isWithin l G H.size z9 0 1) (va_cwS 3 hts gX5_checkFrame_X5_isWithin rfl rfl rfl (by decide +kernel) ⟨(Nat.le_of_ble_eq_true rfl), (Nat.le_of_ble_eq_true rfl)⟩) (zS hK hPc hDc) rfl rfl hl.1 rfl (lv_room (Nat.le_of_ble_eq_true rfl)) dX5_checkFrame_23 ⟨(Nat.le_of_ble_eq_true rfl), (Nat.le_of_ble_eq_true rfl)⟩) hP hD hS hA [] [] rfl rfl (by decide) (by decide) (fun r_7 u_7 H locs hw_7 hP hD hS => ?_)
      subst hw_7
      have hP : va_P G.1 vwCl [] H := hP
      have hD : va_D A [] := hD
      by_cases q_8 : 0 ≤ z9 ∧ z9 ≤ 1
      · refine z_top (if_pos q_8) ?_
        exact absurd ⟨q_2, q_5, q_8⟩ hbad
      · refine z_top (if_neg q_8) ?_
        have hPc := hP.sub (ws' := []) [] rfl
        have hDc := hD.sub (ws' := []) [] (by decide) rfl
        exact z_outv (vx_runS (As := [.int 0]) (rest := []) ⟨hx, hb, hml, hown, hts⟩ (cx_X5_checkArgument l hl0 G H.size) (va_cwS 1 hts gX5_checkFrame_X5_checkArgument rfl rfl rfl (by decide +kernel) ⟨(Nat.le_of_ble_eq_true rfl), (Nat.le_of_ble_eq_true rfl)⟩) (zSx hK hPc hDc hS hZ hA) rfl rfl hl.1 rfl (lv_room (Nat.le_of_ble_eq_true rfl)) dX5_checkFrame_26 ⟨(Nat.le_of_ble_eq_true rfl), (Nat.le_of_ble_eq_true rfl)⟩) hP hD hS hA hte hlocks [] rfl (Nat.le_of_ble_eq_true rfl) (Nat.le_of_ble_eq_true rfl)
    · refine z_top (if_neg q_5) ?_
      have hPc := hP.sub (ws' := []) [] rfl
      have hDc := hD.sub (ws' := []) [] (by decide) rfl
      exact z_outv (vx_runS (As := [.int 0]) (rest := []) ⟨hx, hb, hml, hown, hts⟩ (cx_X5_checkArgument l hl0 G H.size) (va_cwS 1 hts gX5_checkFrame_X5_checkArgument rfl rfl rfl (by decide +kernel) ⟨(Nat.le_of_ble_eq_true rfl), (Nat.le_of_ble_eq_true rfl)⟩) (zSx hK hPc hDc hS hZ hA) rfl rfl hl.1 rfl (lv_room (Nat.le_of_ble_eq_true rfl)) dX5_checkFrame_17 ⟨(Nat.le_of_ble_eq_true rfl), (Nat.le_of_ble_eq_true rfl)⟩) hP hD hS hA hte hlocks [] rfl (Nat.le_of_ble_eq_true rfl) (Nat.le_of_ble_eq_true rfl)
  · refine z_top (if_neg q_2) ?_
    have hPc := hP.sub (ws' := []) [] rfl
    have hDc := hD.sub (ws' := []) [] (by decide) rfl
    exact z_outv (vx_runS (As := [.int 0]) (rest := []) ⟨hx, hb, hml, hown, hts⟩ (cx_X5_checkArgument l hl0 G H.size) (va_cwS 1 hts gX5_checkFrame_X5_checkArgument rfl rfl rfl (by decide +kernel) ⟨(Nat.le_of_ble_eq_true rfl), (Nat.le_of_ble_eq_true rfl)⟩) (zSx hK hPc hDc hS hZ hA) rfl rfl hl.1 rfl (lv_room (Nat.le_of_ble_eq_true rfl)) dX5_checkFrame_7 ⟨(Nat.le_of_ble_eq_true rfl), (Nat.le_of_ble_eq_true rfl)⟩) hP hD hS hA hte hlocks [] rfl (Nat.le_of_ble_eq_true rfl) (Nat.le_of_ble_eq_true rfl)
set_option maxHeartbeats 1000000 in
set_option maxRecDepth 100000 in
theorem c_X5_checkStrength (l : Launch) (G : zG) (sz : Nat) (x9 : Int32) (hok : 1 ≤ x9 ∧ x9 ≤ 10) : zMv l yX5_checkStrength wsX5_checkStrength ({ frames := 1, cells := 0, slots := 0, locals := 22 } : Room) [.int x9] G [] (fun (_ : Unit) => True) (fun _ => []) sz 0 0 := by
  refine zMv_of (cc := cX5_checkStrength) (maxL := 1) (ret := none) (by decide) rfl (Nat.le_of_ble_eq_true rfl) ?_
  intro p e s m args below meth c A ls hx hb hr hml hts hown hlocks hnm hK hP hD hAe hS hA hl hsz
  have hown : s.vm.findClass RX5 = some m.cls := hown
  have hP : va_P G.1 vwCl [] s.heap := hP
  have hD : va_D A [] := hD
  have hl : lv_has ls 1 [(0, .int x9)] := hl
  refine lv_iload_n hx hb dX5_checkStrength_0 rfl (lv_at hl 0 rfl) ?_
  refine lv_iconst (v := 1) hx hb dX5_checkStrength_1 (by decide) ?_
  refine lv_bipush (v := 10) hx hb dX5_checkStrength_2 (by decide) ?_
  have hPc := hP.sub (ws' := []) [] rfl
  have hDc := hD.sub (ws' := []) [] (by decide) rfl
  refine z_calli (wr := []) (va_runS (As := [.int x9, .int 1, .int 10]) (rest := []) ⟨hx, hb, hml, hown, hts⟩ (c_X5_isWithin l G s.heap.size x9 1 10) (va_cwS 3 hts gX5_checkStrength_X5_isWithin rfl rfl rfl (by decide +kernel) ⟨(Nat.le_of_ble_eq_true rfl), (Nat.le_of_ble_eq_true rfl)⟩) (zS hK hPc hDc) rfl rfl hl.1 rfl (lv_room (Nat.le_of_ble_eq_true rfl)) dX5_checkStrength_4 ⟨(Nat.le_of_ble_eq_true rfl), (Nat.le_of_ble_eq_true rfl)⟩) hP hD hS hA [] [] rfl rfl (by decide) (by decide) (fun r_1 u_1 H locs hw_1 hP hD hS => ?_)
  subst hw_1
  have hP : va_P G.1 vwCl [] H := hP
  have hD : va_D A [] := hD
  refine z_top (if_pos hok) ?_
  have hPc := hP.sub (ws' := []) [] rfl
  have hDc := hD.sub (ws' := []) [] (by decide) rfl
  refine z_callv (wr := []) (va_runS (As := [.int 1]) (rest := []) ⟨hx, hb, hml, hown, hts⟩ (c_X5_checkArgument l G H.size) (va_cwS 1 hts gX5_checkStrength_X5_checkArgument rfl rfl rfl (by decide +kernel) ⟨(Nat.le_of_ble_eq_true rfl), (Nat.le_of_ble_eq_true rfl)⟩) (zS hK hPc hDc) rfl rfl hl.1 rfl (lv_room (Nat.le_of_ble_eq_true rfl)) dX5_checkStrength_7 ⟨(Nat.le_of_ble_eq_true rfl), (Nat.le_of_ble_eq_true rfl)⟩) hP hD hS hA [] [] rfl rfl (by decide) (by decide) (fun u_2 H locs hw_2 hP hD hS => ?_)
  have hP : va_P G.1 vwCl [] H := hP
  have hD : va_D A [] := hD
  have hP9 := hP.sub (ws' := []) [] rfl
  have hD9 := hD.sub (ws' := []) [] (by decide) rfl
  exact z_vret hx hb hr hlocks () hP9 hD9 hS (Nat.le_of_ble_eq_true rfl) (Nat.le_of_ble_eq_true rfl) dX5_checkStrength_10 trivial
set_option maxHeartbeats 1000000 in
set_option maxRecDepth 100000 in
theorem cx_X5_checkStrength (l : Launch) (hl0 : l.stackTraces = false) (G : zG) (sz : Nat) (x9 : Int32) (hbad : ¬ (1 ≤ x9 ∧ x9 ≤ 10)) : zMx zNv l yX5_checkStrength wsX5_checkStrength ({ frames := 7, cells := 1, slots := 6, locals := 102 } : Room) [.int x9] G [] "java/lang/IllegalArgumentException" sz := by
  refine zMx_of (cc := cX5_checkStrength) (maxL := 1) (ret := none) (by decide) rfl (Nat.le_of_ble_eq_true rfl) ?_
  intro p e s m args below meth c A ls hx hb hr hml hts hown hlocks hnm hK hP hD hAe hS hA hl hsz hZ hte
  have hown : s.vm.findClass RX5 = some m.cls := hown
  have hP : va_P G.1 vwCl [] s.heap := hP
  have hD : va_D A [] := hD
  have hl : lv_has ls 1 [(0, .int x9)] := hl
  refine lv_iload_n hx hb dX5_checkStrength_0 rfl (lv_at hl 0 rfl) ?_
  refine lv_iconst (v := 1) hx hb dX5_checkStrength_1 (by decide) ?_
  refine lv_bipush (v := 10) hx hb dX5_checkStrength_2 (by decide) ?_
  have hPc := hP.sub (ws' := []) [] rfl
  have hDc := hD.sub (ws' := []) [] (by decide) rfl
  refine z_calli (wr := []) (va_runS (As := [.int x9, .int 1, .int 10]) (rest := []) ⟨hx, hb, hml, hown, hts⟩ (c_X5_isWithin l G s.heap.size x9 1 10) (va_cwS 3 hts gX5_checkStrength_X5_isWithin rfl rfl rfl (by decide +kernel) ⟨(Nat.le_of_ble_eq_true rfl), (Nat.le_of_ble_eq_true rfl)⟩) (zS hK hPc hDc) rfl rfl hl.1 rfl (lv_room (Nat.le_of_ble_eq_true rfl)) dX5_checkStrength_4 ⟨(Nat.le_of_ble_eq_true rfl), (Nat.le_of_ble_eq_true rfl)⟩) hP hD hS hA [] [] rfl rfl (by decide) (by decide) (fun r_1 u_1 H locs hw_1 hP hD hS => ?_)
  subst hw_1
  have hP : va_P G.1 vwCl [] H := hP
  have hD : va_D A [] := hD
  refine z_top (if_neg hbad) ?_
  have hPc := hP.sub (ws' := []) [] rfl
  have hDc := hD.sub (ws' := []) [] (by decide) rfl
  exact z_outv (vx_runS (As := [.int 0]) (rest := []) ⟨hx, hb, hml, hown, hts⟩ (cx_X5_checkArgument l hl0 G H.size) (va_cwS 1 hts gX5_checkStrength_X5_checkArgument rfl rfl rfl (by decide +kernel) ⟨(Nat.le_of_ble_eq_true rfl), (Nat.le_of_ble_eq_true rfl)⟩) (zSx hK hPc hDc hS hZ hA) rfl rfl hl.1 rfl (lv_room (Nat.le_of_ble_eq_true rfl)) dX5_checkStrength_7 ⟨(Nat.le_of_ble_eq_true rfl), (Nat.le_of_ble_eq_true rfl)⟩) hP hD hS hA hte hlocks [] rfl (Nat.le_of_ble_eq_true rfl) (Nat.le_of_ble_eq_true rfl)
end
