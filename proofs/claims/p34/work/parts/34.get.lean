section
theorem zw_X5_glare_f12 : Cond.fieldLink RX5 12 "LightReceiver" "now" "LLightReceiver$State;" ∈ wsX5_glare := by decide +kernel
theorem zi_X5_glare_X5 : ∀ w ∈ wsX50, w ∈ wsX5_glare := fun _ h => List.mem_cons_of_mem _ (List.mem_append_left _ (List.mem_append_right _ h))
theorem zi_X5_glare_X4 : ∀ w ∈ wsX40, w ∈ wsX5_glare := fun _ h => List.mem_cons_of_mem _ (List.mem_append_right _ h)
set_option maxHeartbeats 1000000 in
set_option maxRecDepth 100000 in
theorem c_X5_glare (l : Launch) (G : zG) (sz : Nat) (a b : Nat → Nat) (x y1 y2 : Nat) (g : zF) : zMi l yX5_glare wsX5_glare ({ frames := 0, cells := 0, slots := 0, locals := 0 } : Room) [.ref x] G [(x, .inr (5, [.ref (a 0), .ref y1, .ref y2, .ref (b 0)])), ((a 0), .inr (4, [.int (g 0), .int (g 1), .int (g 2), .int (g 3), .int (g 4), .int (g 5), .int (g 6), .int (g 7), .int (g 8), .int (g 9), .ref (a 1), .ref (a 2), .ref (a 3), .ref (a 4)]))] (fun (v : Int32) (_ : Unit) => v = g 0) (fun _ => [(x, .inr (5, [.ref (a 0), .ref y1, .ref y2, .ref (b 0)])), ((a 0), .inr (4, [.int (g 0), .int (g 1), .int (g 2), .int (g 3), .int (g 4), .int (g 5), .int (g 6), .int (g 7), .int (g 8), .int (g 9), .ref (a 1), .ref (a 2), .ref (a 3), .ref (a 4)]))]) sz 0 0 := by
  refine zMi_of (cc := cX5_glare) (maxL := 1) (ret := (some .int)) (by decide) rfl (Nat.le_of_ble_eq_true rfl) ?_
  intro p e s m args below meth c A ls hx hb hr hml hts hown hlocks hnm hK hP hD hAe hS hA hl hsz
  have hown : s.vm.findClass RX5 = some m.cls := hown
  have hP : va_P G.1 vwCl [(x, .inr (5, [.ref (a 0), .ref y1, .ref y2, .ref (b 0)])), ((a 0), .inr (4, [.int (g 0), .int (g 1), .int (g 2), .int (g 3), .int (g 4), .int (g 5), .int (g 6), .int (g 7), .int (g 8), .int (g 9), .ref (a 1), .ref (a 2), .ref (a 3), .ref (a 4)]))] s.heap := hP
  have hD : va_D A [(x, .inr (5, [.ref (a 0), .ref y1, .ref y2, .ref (b 0)])), ((a 0), .inr (4, [.int (g 0), .int (g 1), .int (g 2), .int (g 3), .int (g 4), .int (g 5), .int (g 6), .int (g 7), .int (g 8), .int (g 9), .ref (a 1), .ref (a 2), .ref (a 3), .ref (a 4)]))] := hD
  have hl : lv_has ls 1 [(0, .ref x)] := hl
  refine lv_aload_n hx hb dX5_glare_0 rfl (lv_at hl 0 rfl) ?_
  refine va_get (D := G.1) (ci := 5) (v := .ref (a 0)) (C := RX5) (T := TX5) (N := 4) hx hb hts zi_X5_glare_X5 hown hK.1 hP 0 rfl rfl 0 (by decide) (hts _ zw_X5_glare_f12) (fun _ h9 => h9) rfl dX5_glare_1 ?_
  refine va_getN (D := G.1) (ci := 4) (v := .int (g 0)) (C := RX4) (T := TX4) (N := 14) hx hb hts zi_X5_glare_X4 hown hK.1 hP 1 rfl rfl 0 (by decide) (zn_3 hK) (fun _ h9 => h9) rfl dX5_glare_4 ?_
  have hP9 := hP.sub (ws' := [(x, .inr (5, [.ref (a 0), .ref y1, .ref y2, .ref (b 0)])), ((a 0), .inr (4, [.int (g 0), .int (g 1), .int (g 2), .int (g 3), .int (g 4), .int (g 5), .int (g 6), .int (g 7), .int (g 8), .int (g 9), .ref (a 1), .ref (a 2), .ref (a 3), .ref (a 4)]))]) [0, 1] rfl
  have hD9 := hD.sub (ws' := [(x, .inr (5, [.ref (a 0), .ref y1, .ref y2, .ref (b 0)])), ((a 0), .inr (4, [.int (g 0), .int (g 1), .int (g 2), .int (g 3), .int (g 4), .int (g 5), .int (g 6), .int (g 7), .int (g 8), .int (g 9), .ref (a 1), .ref (a 2), .ref (a 3), .ref (a 4)]))]) [0, 1] (by decide) rfl
  exact z_iret hx hb hr rfl hlocks () hP9 hD9 hS (Nat.le_of_ble_eq_true rfl) (Nat.le_of_ble_eq_true rfl) dX5_glare_7 rfl
theorem zw_X5_gain_f12 : Cond.fieldLink RX5 12 "LightReceiver" "now" "LLightReceiver$State;" ∈ wsX5_gain := by decide +kernel
theorem zi_X5_gain_X5 : ∀ w ∈ wsX50, w ∈ wsX5_gain := fun _ h => List.mem_cons_of_mem _ (List.mem_append_left _ (List.mem_append_right _ h))
theorem zi_X5_gain_X4 : ∀ w ∈ wsX40, w ∈ wsX5_gain := fun _ h => List.mem_cons_of_mem _ (List.mem_append_right _ h)
set_option maxHeartbeats 1000000 in
set_option maxRecDepth 100000 in
theorem c_X5_gain (l : Launch) (G : zG) (sz : Nat) (a b : Nat → Nat) (x y1 y2 : Nat) (g : zF) : zMi l yX5_gain wsX5_gain ({ frames := 0, cells := 0, slots := 0, locals := 0 } : Room) [.ref x] G [(x, .inr (5, [.ref (a 0), .ref y1, .ref y2, .ref (b 0)])), ((a 0), .inr (4, [.int (g 0), .int (g 1), .int (g 2), .int (g 3), .int (g 4), .int (g 5), .int (g 6), .int (g 7), .int (g 8), .int (g 9), .ref (a 1), .ref (a 2), .ref (a 3), .ref (a 4)]))] (fun (v : Int32) (_ : Unit) => v = g 1) (fun _ => [(x, .inr (5, [.ref (a 0), .ref y1, .ref y2, .ref (b 0)])), ((a 0), .inr (4, [.int (g 0), .int (g 1), .int (g 2), .int (g 3), .int (g 4), .int (g 5), .int (g 6), .int (g 7), .int (g 8), .int (g 9), .ref (a 1), .ref (a 2), .ref (a 3), .ref (a 4)]))]) sz 0 0 := by
  refine zMi_of (cc := cX5_gain) (maxL := 1) (ret := (some .int)) (by decide) rfl (Nat.le_of_ble_eq_true rfl) ?_
  intro p e s m args below meth c A ls hx hb hr hml hts hown hlocks hnm hK hP hD hAe hS hA hl hsz
  have hown : s.vm.findClass RX5 = some m.cls := hown
  have hP : va_P G.1 vwCl [(x, .inr (5, [.ref (a 0), .ref y1, .ref y2, .ref (b 0)])), ((a 0), .inr (4, [.int (g 0), .int (g 1), .int (g 2), .int (g 3), .int (g 4), .int (g 5), .int (g 6), .int (g 7), .int (g 8), .int (g 9), .ref (a 1), .ref (a 2), .ref (a 3), .ref (a 4)]))] s.heap := hP
  have hD : va_D A [(x, .inr (5, [.ref (a 0), .ref y1, .ref y2, .ref (b 0)])), ((a 0), .inr (4, [.int (g 0), .int (g 1), .int (g 2), .int (g 3), .int (g 4), .int (g 5), .int (g 6), .int (g 7), .int (g 8), .int (g 9), .ref (a 1), .ref (a 2), .ref (a 3), .ref (a 4)]))] := hD
  have hl : lv_has ls 1 [(0, .ref x)] := hl
  refine lv_aload_n hx hb dX5_gain_0 rfl (lv_at hl 0 rfl) ?_
  refine va_get (D := G.1) (ci := 5) (v := .ref (a 0)) (C := RX5) (T := TX5) (N := 4) hx hb hts zi_X5_gain_X5 hown hK.1 hP 0 rfl rfl 0 (by decide) (hts _ zw_X5_gain_f12) (fun _ h9 => h9) rfl dX5_gain_1 ?_
  refine va_getN (D := G.1) (ci := 4) (v := .int (g 1)) (C := RX4) (T := TX4) (N := 14) hx hb hts zi_X5_gain_X4 hown hK.1 hP 1 rfl rfl 1 (by decide) (zn_6 hK) (fun _ h9 => h9) rfl dX5_gain_4 ?_
  have hP9 := hP.sub (ws' := [(x, .inr (5, [.ref (a 0), .ref y1, .ref y2, .ref (b 0)])), ((a 0), .inr (4, [.int (g 0), .int (g 1), .int (g 2), .int (g 3), .int (g 4), .int (g 5), .int (g 6), .int (g 7), .int (g 8), .int (g 9), .ref (a 1), .ref (a 2), .ref (a 3), .ref (a 4)]))]) [0, 1] rfl
  have hD9 := hD.sub (ws' := [(x, .inr (5, [.ref (a 0), .ref y1, .ref y2, .ref (b 0)])), ((a 0), .inr (4, [.int (g 0), .int (g 1), .int (g 2), .int (g 3), .int (g 4), .int (g 5), .int (g 6), .int (g 7), .int (g 8), .int (g 9), .ref (a 1), .ref (a 2), .ref (a 3), .ref (a 4)]))]) [0, 1] (by decide) rfl
  exact z_iret hx hb hr rfl hlocks () hP9 hD9 hS (Nat.le_of_ble_eq_true rfl) (Nat.le_of_ble_eq_true rfl) dX5_gain_7 rfl
theorem zw_X5_presses_f12 : Cond.fieldLink RX5 12 "LightReceiver" "now" "LLightReceiver$State;" ∈ wsX5_presses := by decide +kernel
theorem zi_X5_presses_X5 : ∀ w ∈ wsX50, w ∈ wsX5_presses := fun _ h => List.mem_cons_of_mem _ (List.mem_append_left _ (List.mem_append_right _ h))
theorem zi_X5_presses_X4 : ∀ w ∈ wsX40, w ∈ wsX5_presses := fun _ h => List.mem_cons_of_mem _ (List.mem_append_right _ h)
set_option maxHeartbeats 1000000 in
set_option maxRecDepth 100000 in
theorem c_X5_presses (l : Launch) (G : zG) (sz : Nat) (a b : Nat → Nat) (x y1 y2 : Nat) (g : zF) : zMi l yX5_presses wsX5_presses ({ frames := 0, cells := 0, slots := 0, locals := 0 } : Room) [.ref x] G [(x, .inr (5, [.ref (a 0), .ref y1, .ref y2, .ref (b 0)])), ((a 0), .inr (4, [.int (g 0), .int (g 1), .int (g 2), .int (g 3), .int (g 4), .int (g 5), .int (g 6), .int (g 7), .int (g 8), .int (g 9), .ref (a 1), .ref (a 2), .ref (a 3), .ref (a 4)]))] (fun (v : Int32) (_ : Unit) => v = g 7) (fun _ => [(x, .inr (5, [.ref (a 0), .ref y1, .ref y2, .ref (b 0)])), ((a 0), .inr (4, [.int (g 0), .int (g 1), .int (g 2), .int (g 3), .int (g 4), .int (g 5), .int (g 6), .int (g 7), .int (g 8), .int (g 9), .ref (a 1), .ref (a 2), .ref (a 3), .ref (a 4)]))]) sz 0 0 := by
  refine zMi_of (cc := cX5_presses) (maxL := 1) (ret := (some .int)) (by decide) rfl (Nat.le_of_ble_eq_true rfl) ?_
  intro p e s m args below meth c A ls hx hb hr hml hts hown hlocks hnm hK hP hD hAe hS hA hl hsz
  have hown : s.vm.findClass RX5 = some m.cls := hown
  have hP : va_P G.1 vwCl [(x, .inr (5, [.ref (a 0), .ref y1, .ref y2, .ref (b 0)])), ((a 0), .inr (4, [.int (g 0), .int (g 1), .int (g 2), .int (g 3), .int (g 4), .int (g 5), .int (g 6), .int (g 7), .int (g 8), .int (g 9), .ref (a 1), .ref (a 2), .ref (a 3), .ref (a 4)]))] s.heap := hP
  have hD : va_D A [(x, .inr (5, [.ref (a 0), .ref y1, .ref y2, .ref (b 0)])), ((a 0), .inr (4, [.int (g 0), .int (g 1), .int (g 2), .int (g 3), .int (g 4), .int (g 5), .int (g 6), .int (g 7), .int (g 8), .int (g 9), .ref (a 1), .ref (a 2), .ref (a 3), .ref (a 4)]))] := hD
  have hl : lv_has ls 1 [(0, .ref x)] := hl
  refine lv_aload_n hx hb dX5_presses_0 rfl (lv_at hl 0 rfl) ?_
  refine va_get (D := G.1) (ci := 5) (v := .ref (a 0)) (C := RX5) (T := TX5) (N := 4) hx hb hts zi_X5_presses_X5 hown hK.1 hP 0 rfl rfl 0 (by decide) (hts _ zw_X5_presses_f12) (fun _ h9 => h9) rfl dX5_presses_1 ?_
  refine va_getN (D := G.1) (ci := 4) (v := .int (g 7)) (C := RX4) (T := TX4) (N := 14) hx hb hts zi_X5_presses_X4 hown hK.1 hP 1 rfl rfl 7 (by decide) (zn_10 hK) (fun _ h9 => h9) rfl dX5_presses_4 ?_
  have hP9 := hP.sub (ws' := [(x, .inr (5, [.ref (a 0), .ref y1, .ref y2, .ref (b 0)])), ((a 0), .inr (4, [.int (g 0), .int (g 1), .int (g 2), .int (g 3), .int (g 4), .int (g 5), .int (g 6), .int (g 7), .int (g 8), .int (g 9), .ref (a 1), .ref (a 2), .ref (a 3), .ref (a 4)]))]) [0, 1] rfl
  have hD9 := hD.sub (ws' := [(x, .inr (5, [.ref (a 0), .ref y1, .ref y2, .ref (b 0)])), ((a 0), .inr (4, [.int (g 0), .int (g 1), .int (g 2), .int (g 3), .int (g 4), .int (g 5), .int (g 6), .int (g 7), .int (g 8), .int (g 9), .ref (a 1), .ref (a 2), .ref (a 3), .ref (a 4)]))]) [0, 1] (by decide) rfl
  exact z_iret hx hb hr rfl hlocks () hP9 hD9 hS (Nat.le_of_ble_eq_true rfl) (Nat.le_of_ble_eq_true rfl) dX5_presses_7 rfl
theorem zw_X5_received_f12 : Cond.fieldLink RX5 12 "LightReceiver" "now" "LLightReceiver$State;" ∈ wsX5_received := by decide +kernel
theorem zi_X5_received_X5 : ∀ w ∈ wsX50, w ∈ wsX5_received := fun _ h => List.mem_cons_of_mem _ (List.mem_append_left _ (List.mem_append_right _ h))
theorem zi_X5_received_X4 : ∀ w ∈ wsX40, w ∈ wsX5_received := fun _ h => List.mem_cons_of_mem _ (List.mem_append_right _ h)
set_option maxHeartbeats 1000000 in
set_option maxRecDepth 100000 in
theorem c_X5_received (l : Launch) (G : zG) (sz : Nat) (a b : Nat → Nat) (x y1 y2 : Nat) (g : zF) : zMi l yX5_received wsX5_received ({ frames := 0, cells := 0, slots := 0, locals := 0 } : Room) [.ref x] G [(x, .inr (5, [.ref (a 0), .ref y1, .ref y2, .ref (b 0)])), ((a 0), .inr (4, [.int (g 0), .int (g 1), .int (g 2), .int (g 3), .int (g 4), .int (g 5), .int (g 6), .int (g 7), .int (g 8), .int (g 9), .ref (a 1), .ref (a 2), .ref (a 3), .ref (a 4)]))] (fun (v : Int32) (_ : Unit) => v = g 8) (fun _ => [(x, .inr (5, [.ref (a 0), .ref y1, .ref y2, .ref (b 0)])), ((a 0), .inr (4, [.int (g 0), .int (g 1), .int (g 2), .int (g 3), .int (g 4), .int (g 5), .int (g 6), .int (g 7), .int (g 8), .int (g 9), .ref (a 1), .ref (a 2), .ref (a 3), .ref (a 4)]))]) sz 0 0 := by
  refine zMi_of (cc := cX5_received) (maxL := 1) (ret := (some .int)) (by decide) rfl (Nat.le_of_ble_eq_true rfl) ?_
  intro p e s m args below meth c A ls hx hb hr hml hts hown hlocks hnm hK hP hD hAe hS hA hl hsz
  have hown : s.vm.findClass RX5 = some m.cls := hown
  have hP : va_P G.1 vwCl [(x, .inr (5, [.ref (a 0), .ref y1, .ref y2, .ref (b 0)])), ((a 0), .inr (4, [.int (g 0), .int (g 1), .int (g 2), .int (g 3), .int (g 4), .int (g 5), .int (g 6), .int (g 7), .int (g 8), .int (g 9), .ref (a 1), .ref (a 2), .ref (a 3), .ref (a 4)]))] s.heap := hP
  have hD : va_D A [(x, .inr (5, [.ref (a 0), .ref y1, .ref y2, .ref (b 0)])), ((a 0), .inr (4, [.int (g 0), .int (g 1), .int (g 2), .int (g 3), .int (g 4), .int (g 5), .int (g 6), .int (g 7), .int (g 8), .int (g 9), .ref (a 1), .ref (a 2), .ref (a 3), .ref (a 4)]))] := hD
  have hl : lv_has ls 1 [(0, .ref x)] := hl
  refine lv_aload_n hx hb dX5_received_0 rfl (lv_at hl 0 rfl) ?_
  refine va_get (D := G.1) (ci := 5) (v := .ref (a 0)) (C := RX5) (T := TX5) (N := 4) hx hb hts zi_X5_received_X5 hown hK.1 hP 0 rfl rfl 0 (by decide) (hts _ zw_X5_received_f12) (fun _ h9 => h9) rfl dX5_received_1 ?_
  refine va_getN (D := G.1) (ci := 4) (v := .int (g 8)) (C := RX4) (T := TX4) (N := 14) hx hb hts zi_X5_received_X4 hown hK.1 hP 1 rfl rfl 8 (by decide) (zn_12 hK) (fun _ h9 => h9) rfl dX5_received_4 ?_
  have hP9 := hP.sub (ws' := [(x, .inr (5, [.ref (a 0), .ref y1, .ref y2, .ref (b 0)])), ((a 0), .inr (4, [.int (g 0), .int (g 1), .int (g 2), .int (g 3), .int (g 4), .int (g 5), .int (g 6), .int (g 7), .int (g 8), .int (g 9), .ref (a 1), .ref (a 2), .ref (a 3), .ref (a 4)]))]) [0, 1] rfl
  have hD9 := hD.sub (ws' := [(x, .inr (5, [.ref (a 0), .ref y1, .ref y2, .ref (b 0)])), ((a 0), .inr (4, [.int (g 0), .int (g 1), .int (g 2), .int (g 3), .int (g 4), .int (g 5), .int (g 6), .int (g 7), .int (g 8), .int (g 9), .ref (a 1), .ref (a 2), .ref (a 3), .ref (a 4)]))]) [0, 1] (by decide) rfl
  exact z_iret hx hb hr rfl hlocks () hP9 hD9 hS (Nat.le_of_ble_eq_true rfl) (Nat.le_of_ble_eq_true rfl) dX5_received_7 rfl
theorem zw_X5_row_f12 : Cond.fieldLink RX5 12 "LightReceiver" "now" "LLightReceiver$State;" ∈ wsX5_row := by decide +kernel
theorem zi_X5_row_X5 : ∀ w ∈ wsX50, w ∈ wsX5_row := fun _ h => List.mem_cons_of_mem _ (List.mem_append_left _ (List.mem_append_left _ (List.mem_append_right _ h)))
theorem zi_X5_row_X4 : ∀ w ∈ wsX40, w ∈ wsX5_row := fun _ h => List.mem_cons_of_mem _ (List.mem_append_left _ (List.mem_append_right _ h))
theorem zi_X5_row_X2 : ∀ w ∈ wsX20, w ∈ wsX5_row := fun _ h => List.mem_cons_of_mem _ (List.mem_append_right _ h)
set_option maxHeartbeats 1000000 in
set_option maxRecDepth 100000 in
theorem c_X5_row (l : Launch) (G : zG) (sz : Nat) (a b : Nat → Nat) (x y1 y2 : Nat) (g f3 : zF) (lc : Nat) : zMi l yX5_row wsX5_row ({ frames := 0, cells := 0, slots := 0, locals := 0 } : Room) [.ref x] G [(x, .inr (5, [.ref (a 0), .ref y1, .ref y2, .ref (b 0)])), ((a 0), .inr (4, [.int (g 0), .int (g 1), .int (g 2), .int (g 3), .int (g 4), .int (g 5), .int (g 6), .int (g 7), .int (g 8), .int (g 9), .ref (a 1), .ref (a 2), .ref (a 3), .ref (a 4)])), ((a 4), .inr (2, [.ref (a 8), .int (nI lc)])), ((a 8), .inl (G.2.1 0, 30, .inl f3))] (fun (v : Int32) (_ : Unit) => v = nI lc) (fun _ => [(x, .inr (5, [.ref (a 0), .ref y1, .ref y2, .ref (b 0)])), ((a 0), .inr (4, [.int (g 0), .int (g 1), .int (g 2), .int (g 3), .int (g 4), .int (g 5), .int (g 6), .int (g 7), .int (g 8), .int (g 9), .ref (a 1), .ref (a 2), .ref (a 3), .ref (a 4)])), ((a 4), .inr (2, [.ref (a 8), .int (nI lc)])), ((a 8), .inl (G.2.1 0, 30, .inl f3))]) sz 0 0 := by
  refine zMi_of (cc := cX5_row) (maxL := 1) (ret := (some .int)) (by decide) rfl (Nat.le_of_ble_eq_true rfl) ?_
  intro p e s m args below meth c A ls hx hb hr hml hts hown hlocks hnm hK hP hD hAe hS hA hl hsz
  have hown : s.vm.findClass RX5 = some m.cls := hown
  have hP : va_P G.1 vwCl [(x, .inr (5, [.ref (a 0), .ref y1, .ref y2, .ref (b 0)])), ((a 0), .inr (4, [.int (g 0), .int (g 1), .int (g 2), .int (g 3), .int (g 4), .int (g 5), .int (g 6), .int (g 7), .int (g 8), .int (g 9), .ref (a 1), .ref (a 2), .ref (a 3), .ref (a 4)])), ((a 4), .inr (2, [.ref (a 8), .int (nI lc)])), ((a 8), .inl (G.2.1 0, 30, .inl f3))] s.heap := hP
  have hD : va_D A [(x, .inr (5, [.ref (a 0), .ref y1, .ref y2, .ref (b 0)])), ((a 0), .inr (4, [.int (g 0), .int (g 1), .int (g 2), .int (g 3), .int (g 4), .int (g 5), .int (g 6), .int (g 7), .int (g 8), .int (g 9), .ref (a 1), .ref (a 2), .ref (a 3), .ref (a 4)])), ((a 4), .inr (2, [.ref (a 8), .int (nI lc)])), ((a 8), .inl (G.2.1 0, 30, .inl f3))] := hD
  have hl : lv_has ls 1 [(0, .ref x)] := hl
  refine lv_aload_n hx hb dX5_row_0 rfl (lv_at hl 0 rfl) ?_
  refine va_get (D := G.1) (ci := 5) (v := .ref (a 0)) (C := RX5) (T := TX5) (N := 4) hx hb hts zi_X5_row_X5 hown hK.1 hP 0 rfl rfl 0 (by decide) (hts _ zw_X5_row_f12) (fun _ h9 => h9) rfl dX5_row_1 ?_
  refine va_getN (D := G.1) (ci := 4) (v := .ref (a 4)) (C := RX4) (T := TX4) (N := 14) hx hb hts zi_X5_row_X4 hown hK.1 hP 1 rfl rfl 13 (by decide) (zn_0 hK) (fun _ h9 => h9) rfl dX5_row_4 ?_
  refine va_getN (D := G.1) (ci := 2) (v := .int (nI lc)) (C := RX2) (T := TX2) (N := 2) hx hb hts zi_X5_row_X2 hown hK.1 hP 2 rfl rfl 1 (by decide) (zn_1 hK) (fun _ h9 => h9) rfl dX5_row_7 ?_
  have hP9 := hP.sub (ws' := [(x, .inr (5, [.ref (a 0), .ref y1, .ref y2, .ref (b 0)])), ((a 0), .inr (4, [.int (g 0), .int (g 1), .int (g 2), .int (g 3), .int (g 4), .int (g 5), .int (g 6), .int (g 7), .int (g 8), .int (g 9), .ref (a 1), .ref (a 2), .ref (a 3), .ref (a 4)])), ((a 4), .inr (2, [.ref (a 8), .int (nI lc)])), ((a 8), .inl (G.2.1 0, 30, .inl f3))]) [0, 1, 2, 3] rfl
  have hD9 := hD.sub (ws' := [(x, .inr (5, [.ref (a 0), .ref y1, .ref y2, .ref (b 0)])), ((a 0), .inr (4, [.int (g 0), .int (g 1), .int (g 2), .int (g 3), .int (g 4), .int (g 5), .int (g 6), .int (g 7), .int (g 8), .int (g 9), .ref (a 1), .ref (a 2), .ref (a 3), .ref (a 4)])), ((a 4), .inr (2, [.ref (a 8), .int (nI lc)])), ((a 8), .inl (G.2.1 0, 30, .inl f3))]) [0, 1, 2, 3] (by decide) rfl
  exact z_iret hx hb hr rfl hlocks () hP9 hD9 hS (Nat.le_of_ble_eq_true rfl) (Nat.le_of_ble_eq_true rfl) dX5_row_10 rfl
theorem zw_X5_remembered_f12 : Cond.fieldLink RX5 12 "LightReceiver" "now" "LLightReceiver$State;" ∈ wsX5_remembered := by decide +kernel
theorem zi_X5_remembered_X5 : ∀ w ∈ wsX50, w ∈ wsX5_remembered := fun _ h => List.mem_cons_of_mem _ (List.mem_append_left _ (List.mem_append_right _ h))
theorem zi_X5_remembered_X4 : ∀ w ∈ wsX40, w ∈ wsX5_remembered := fun _ h => List.mem_cons_of_mem _ (List.mem_append_right _ h)
set_option maxHeartbeats 1000000 in
set_option maxRecDepth 100000 in
theorem c_X5_remembered (l : Launch) (G : zG) (sz : Nat) (a b : Nat → Nat) (x y1 y2 : Nat) (g : zF) : zMi l yX5_remembered wsX5_remembered ({ frames := 1, cells := 0, slots := 0, locals := 20 } : Room) [.ref x] G [(x, .inr (5, [.ref (a 0), .ref y1, .ref y2, .ref (b 0)])), ((a 0), .inr (4, [.int (g 0), .int (g 1), .int (g 2), .int (g 3), .int (g 4), .int (g 5), .int (g 6), .int (g 7), .int (g 8), .int (g 9), .ref (a 1), .ref (a 2), .ref (a 3), .ref (a 4)]))] (fun (v : Int32) (_ : Unit) => v = if rmb g then g 3 else -1) (fun _ => [(x, .inr (5, [.ref (a 0), .ref y1, .ref y2, .ref (b 0)])), ((a 0), .inr (4, [.int (g 0), .int (g 1), .int (g 2), .int (g 3), .int (g 4), .int (g 5), .int (g 6), .int (g 7), .int (g 8), .int (g 9), .ref (a 1), .ref (a 2), .ref (a 3), .ref (a 4)]))]) sz 0 0 := by
  refine zMi_of (cc := cX5_remembered) (maxL := 1) (ret := (some .int)) (by decide) rfl (Nat.le_of_ble_eq_true rfl) ?_
  intro p e s m args below meth c A ls hx hb hr hml hts hown hlocks hnm hK hP hD hAe hS hA hl hsz
  have hown : s.vm.findClass RX5 = some m.cls := hown
  have hP : va_P G.1 vwCl [(x, .inr (5, [.ref (a 0), .ref y1, .ref y2, .ref (b 0)])), ((a 0), .inr (4, [.int (g 0), .int (g 1), .int (g 2), .int (g 3), .int (g 4), .int (g 5), .int (g 6), .int (g 7), .int (g 8), .int (g 9), .ref (a 1), .ref (a 2), .ref (a 3), .ref (a 4)]))] s.heap := hP
  have hD : va_D A [(x, .inr (5, [.ref (a 0), .ref y1, .ref y2, .ref (b 0)])), ((a 0), .inr (4, [.int (g 0), .int (g 1), .int (g 2), .int (g 3), .int (g 4), .int (g 5), .int (g 6), .int (g 7), .int (g 8), .int (g 9), .ref (a 1), .ref (a 2), .ref (a 3), .ref (a 4)]))] := hD
  have hl : lv_has ls 1 [(0, .ref x)] := hl
  refine lv_aload_n hx hb dX5_remembered_0 rfl (lv_at hl 0 rfl) ?_
  refine va_get (D := G.1) (ci := 5) (v := .ref (a 0)) (C := RX5) (T := TX5) (N := 4) hx hb hts zi_X5_remembered_X5 hown hK.1 hP 0 rfl rfl 0 (by decide) (hts _ zw_X5_remembered_f12) (fun _ h9 => h9) rfl dX5_remembered_1 ?_
  have hPc := hP.sub (ws' := [((a 0), .inr (4, [.int (g 0), .int (g 1), .int (g 2), .int (g 3), .int (g 4), .int (g 5), .int (g 6), .int (g 7), .int (g 8), .int (g 9), .ref (a 1), .ref (a 2), .ref (a 3), .ref (a 4)]))]) [1] rfl
  have hDc := hD.sub (ws' := [((a 0), .inr (4, [.int (g 0), .int (g 1), .int (g 2), .int (g 3), .int (g 4), .int (g 5), .int (g 6), .int (g 7), .int (g 8), .int (g 9), .ref (a 1), .ref (a 2), .ref (a 3), .ref (a 4)]))]) [1] (by decide) rfl
  refine z_calli (wr := [(x, .inr (5, [.ref (a 0), .ref y1, .ref y2, .ref (b 0)]))]) (va_runV (As := []) (rest := []) ⟨hx, hb, hml, hown, hts⟩ (c_X4_remembers l G s.heap.size a g) (cwV 0 hts gX5_remembered_X4_remembers rfl rfl rfl (by decide +kernel) ⟨(Nat.le_of_ble_eq_true rfl), (Nat.le_of_ble_eq_true rfl)⟩) (zV (ci := 4) (q0 := 0) hK hPc hDc rfl rfl) rfl rfl hl.1 rfl (lv_room (Nat.le_of_ble_eq_true rfl)) dX5_remembered_4 ⟨(Nat.le_of_ble_eq_true rfl), (Nat.le_of_ble_eq_true rfl)⟩) hP hD hS hA [1] [0] rfl rfl (by decide) (by decide) (fun r_1 u_1 H locs hw_1 hP hD hS => ?_)
  subst hw_1
  have hP : va_P G.1 vwCl [(x, .inr (5, [.ref (a 0), .ref y1, .ref y2, .ref (b 0)])), ((a 0), .inr (4, [.int (g 0), .int (g 1), .int (g 2), .int (g 3), .int (g 4), .int (g 5), .int (g 6), .int (g 7), .int (g 8), .int (g 9), .ref (a 1), .ref (a 2), .ref (a 3), .ref (a 4)]))] H := hP
  have hD : va_D A [(x, .inr (5, [.ref (a 0), .ref y1, .ref y2, .ref (b 0)])), ((a 0), .inr (4, [.int (g 0), .int (g 1), .int (g 2), .int (g 3), .int (g 4), .int (g 5), .int (g 6), .int (g 7), .int (g 8), .int (g 9), .ref (a 1), .ref (a 2), .ref (a 3), .ref (a 4)]))] := hD
  refine lv_if_eq (tgt := 20) hx hb dX5_remembered_7 (by decide) (fun c_2 => ?_) (fun c_2 => ?_)
  · have f_c_2 : ¬ (rmb g) := fun z => absurd c_2 (by rw [if_pos z]; decide)
    refine lv_iconst (v := -1) hx hb dX5_remembered_20 (by decide) ?_
    have hP9 := hP.sub (ws' := [(x, .inr (5, [.ref (a 0), .ref y1, .ref y2, .ref (b 0)])), ((a 0), .inr (4, [.int (g 0), .int (g 1), .int (g 2), .int (g 3), .int (g 4), .int (g 5), .int (g 6), .int (g 7), .int (g 8), .int (g 9), .ref (a 1), .ref (a 2), .ref (a 3), .ref (a 4)]))]) [0, 1] rfl
    have hD9 := hD.sub (ws' := [(x, .inr (5, [.ref (a 0), .ref y1, .ref y2, .ref (b 0)])), ((a 0), .inr (4, [.int (g 0), .int (g 1), .int (g 2), .int (g 3), .int (g 4), .int (g 5), .int (g 6), .int (g 7), .int (g 8), .int (g 9), .ref (a 1), .ref (a 2), .ref (a 3), .ref (a 4)]))]) [0, 1] (by decide) rfl
    exact z_iret hx hb hr rfl hlocks () hP9 hD9 hS (Nat.le_of_ble_eq_true rfl) (Nat.le_of_ble_eq_true rfl) dX5_remembered_21 (if_neg f_c_2).symm
  · have f_c_2 : rmb g := Decidable.byContradiction (fun z => c_2 (if_neg z))
    refine lv_aload_n hx hb dX5_remembered_10 rfl (lv_at hl 0 rfl) ?_
    refine va_get (D := G.1) (ci := 5) (v := .ref (a 0)) (C := RX5) (T := TX5) (N := 4) hx hb hts zi_X5_remembered_X5 hown hK.1 hP 0 rfl rfl 0 (by decide) (hts _ zw_X5_remembered_f12) (fun _ h9 => h9) rfl dX5_remembered_11 ?_
    refine va_getN (D := G.1) (ci := 4) (v := .int (g 3)) (C := RX4) (T := TX4) (N := 14) hx hb hts zi_X5_remembered_X4 hown hK.1 hP 1 rfl rfl 3 (by decide) (zn_8 hK) (fun _ h9 => h9) rfl dX5_remembered_14 ?_
    refine lv_goto (tgt := 21) hx hb dX5_remembered_17 (by decide) ?_
    have hP9 := hP.sub (ws' := [(x, .inr (5, [.ref (a 0), .ref y1, .ref y2, .ref (b 0)])), ((a 0), .inr (4, [.int (g 0), .int (g 1), .int (g 2), .int (g 3), .int (g 4), .int (g 5), .int (g 6), .int (g 7), .int (g 8), .int (g 9), .ref (a 1), .ref (a 2), .ref (a 3), .ref (a 4)]))]) [0, 1] rfl
    have hD9 := hD.sub (ws' := [(x, .inr (5, [.ref (a 0), .ref y1, .ref y2, .ref (b 0)])), ((a 0), .inr (4, [.int (g 0), .int (g 1), .int (g 2), .int (g 3), .int (g 4), .int (g 5), .int (g 6), .int (g 7), .int (g 8), .int (g 9), .ref (a 1), .ref (a 2), .ref (a 3), .ref (a 4)]))]) [0, 1] (by decide) rfl
    exact z_iret hx hb hr rfl hlocks () hP9 hD9 hS (Nat.le_of_ble_eq_true rfl) (Nat.le_of_ble_eq_true rfl) dX5_remembered_21 (if_pos f_c_2).symm
theorem zw_X5_holds_f12 : Cond.fieldLink RX5 12 "LightReceiver" "now" "LLightReceiver$State;" ∈ wsX5_holds := by decide +kernel
theorem zi_X5_holds_X5 : ∀ w ∈ wsX50, w ∈ wsX5_holds := fun _ h => List.mem_cons_of_mem _ (List.mem_append_left _ (List.mem_append_right _ h))
theorem zi_X5_holds_X4 : ∀ w ∈ wsX40, w ∈ wsX5_holds := fun _ h => List.mem_cons_of_mem _ (List.mem_append_right _ h)
set_option maxHeartbeats 1000000 in
set_option maxRecDepth 100000 in
theorem c_X5_holds (l : Launch) (G : zG) (sz : Nat) (a b : Nat → Nat) (x y1 y2 : Nat) (g : zF) : zMi l yX5_holds wsX5_holds ({ frames := 1, cells := 0, slots := 0, locals := 20 } : Room) [.ref x] G [(x, .inr (5, [.ref (a 0), .ref y1, .ref y2, .ref (b 0)])), ((a 0), .inr (4, [.int (g 0), .int (g 1), .int (g 2), .int (g 3), .int (g 4), .int (g 5), .int (g 6), .int (g 7), .int (g 8), .int (g 9), .ref (a 1), .ref (a 2), .ref (a 3), .ref (a 4)]))] (fun (v : Int32) (_ : Unit) => v = if rmb g then g 5 else 0) (fun _ => [(x, .inr (5, [.ref (a 0), .ref y1, .ref y2, .ref (b 0)])), ((a 0), .inr (4, [.int (g 0), .int (g 1), .int (g 2), .int (g 3), .int (g 4), .int (g 5), .int (g 6), .int (g 7), .int (g 8), .int (g 9), .ref (a 1), .ref (a 2), .ref (a 3), .ref (a 4)]))]) sz 0 0 := by
  refine zMi_of (cc := cX5_holds) (maxL := 1) (ret := (some .int)) (by decide) rfl (Nat.le_of_ble_eq_true rfl) ?_
  intro p e s m args below meth c A ls hx hb hr hml hts hown hlocks hnm hK hP hD hAe hS hA hl hsz
  have hown : s.vm.findClass RX5 = some m.cls := hown
  have hP : va_P G.1 vwCl [(x, .inr (5, [.ref (a 0), .ref y1, .ref y2, .ref (b 0)])), ((a 0), .inr (4, [.int (g 0), .int (g 1), .int (g 2), .int (g 3), .int (g 4), .int (g 5), .int (g 6), .int (g 7), .int (g 8), .int (g 9), .ref (a 1), .ref (a 2), .ref (a 3), .ref (a 4)]))] s.heap := hP
  have hD : va_D A [(x, .inr (5, [.ref (a 0), .ref y1, .ref y2, .ref (b 0)])), ((a 0), .inr (4, [.int (g 0), .int (g 1), .int (g 2), .int (g 3), .int (g 4), .int (g 5), .int (g 6), .int (g 7), .int (g 8), .int (g 9), .ref (a 1), .ref (a 2), .ref (a 3), .ref (a 4)]))] := hD
  have hl : lv_has ls 1 [(0, .ref x)] := hl
  refine lv_aload_n hx hb dX5_holds_0 rfl (lv_at hl 0 rfl) ?_
  refine va_get (D := G.1) (ci := 5) (v := .ref (a 0)) (C := RX5) (T := TX5) (N := 4) hx hb hts zi_X5_holds_X5 hown hK.1 hP 0 rfl rfl 0 (by decide) (hts _ zw_X5_holds_f12) (fun _ h9 => h9) rfl dX5_holds_1 ?_
  have hPc := hP.sub (ws' := [((a 0), .inr (4, [.int (g 0), .int (g 1), .int (g 2), .int (g 3), .int (g 4), .int (g 5), .int (g 6), .int (g 7), .int (g 8), .int (g 9), .ref (a 1), .ref (a 2), .ref (a 3), .ref (a 4)]))]) [1] rfl
  have hDc := hD.sub (ws' := [((a 0), .inr (4, [.int (g 0), .int (g 1), .int (g 2), .int (g 3), .int (g 4), .int (g 5), .int (g 6), .int (g 7), .int (g 8), .int (g 9), .ref (a 1), .ref (a 2), .ref (a 3), .ref (a 4)]))]) [1] (by decide) rfl
  refine z_calli (wr := [(x, .inr (5, [.ref (a 0), .ref y1, .ref y2, .ref (b 0)]))]) (va_runV (As := []) (rest := []) ⟨hx, hb, hml, hown, hts⟩ (c_X4_remembers l G s.heap.size a g) (cwV 0 hts gX5_holds_X4_remembers rfl rfl rfl (by decide +kernel) ⟨(Nat.le_of_ble_eq_true rfl), (Nat.le_of_ble_eq_true rfl)⟩) (zV (ci := 4) (q0 := 0) hK hPc hDc rfl rfl) rfl rfl hl.1 rfl (lv_room (Nat.le_of_ble_eq_true rfl)) dX5_holds_4 ⟨(Nat.le_of_ble_eq_true rfl), (Nat.le_of_ble_eq_true rfl)⟩) hP hD hS hA [1] [0] rfl rfl (by decide) (by decide) (fun r_1 u_1 H locs hw_1 hP hD hS => ?_)
  subst hw_1
  have hP : va_P G.1 vwCl [(x, .inr (5, [.ref (a 0), .ref y1, .ref y2, .ref (b 0)])), ((a 0), .inr (4, [.int (g 0), .int (g 1), .int (g 2), .int (g 3), .int (g 4), .int (g 5), .int (g 6), .int (g 7), .int (g 8), .int (g 9), .ref (a 1), .ref (a 2), .ref (a 3), .ref (a 4)]))] H := hP
  have hD : va_D A [(x, .inr (5, [.ref (a 0), .ref y1, .ref y2, .ref (b 0)])), ((a 0), .inr (4, [.int (g 0), .int (g 1), .int (g 2), .int (g 3), .int (g 4), .int (g 5), .int (g 6), .int (g 7), .int (g 8), .int (g 9), .ref (a 1), .ref (a 2), .ref (a 3), .ref (a 4)]))] := hD
  refine lv_if_eq (tgt := 20) hx hb dX5_holds_7 (by decide) (fun c_2 => ?_) (fun c_2 => ?_)
  · have f_c_2 : ¬ (rmb g) := fun z => absurd c_2 (by rw [if_pos z]; decide)
    refine lv_iconst (v := 0) hx hb dX5_holds_20 (by decide) ?_
    have hP9 := hP.sub (ws' := [(x, .inr (5, [.ref (a 0), .ref y1, .ref y2, .ref (b 0)])), ((a 0), .inr (4, [.int (g 0), .int (g 1), .int (g 2), .int (g 3), .int (g 4), .int (g 5), .int (g 6), .int (g 7), .int (g 8), .int (g 9), .ref (a 1), .ref (a 2), .ref (a 3), .ref (a 4)]))]) [0, 1] rfl
    have hD9 := hD.sub (ws' := [(x, .inr (5, [.ref (a 0), .ref y1, .ref y2, .ref (b 0)])), ((a 0), .inr (4, [.int (g 0), .int (g 1), .int (g 2), .int (g 3), .int (g 4), .int (g 5), .int (g 6), .int (g 7), .int (g 8), .int (g 9), .ref (a 1), .ref (a 2), .ref (a 3), .ref (a 4)]))]) [0, 1] (by decide) rfl
    exact z_iret hx hb hr rfl hlocks () hP9 hD9 hS (Nat.le_of_ble_eq_true rfl) (Nat.le_of_ble_eq_true rfl) dX5_holds_21 (if_neg f_c_2).symm
  · have f_c_2 : rmb g := Decidable.byContradiction (fun z => c_2 (if_neg z))
    refine lv_aload_n hx hb dX5_holds_10 rfl (lv_at hl 0 rfl) ?_
    refine va_get (D := G.1) (ci := 5) (v := .ref (a 0)) (C := RX5) (T := TX5) (N := 4) hx hb hts zi_X5_holds_X5 hown hK.1 hP 0 rfl rfl 0 (by decide) (hts _ zw_X5_holds_f12) (fun _ h9 => h9) rfl dX5_holds_11 ?_
    refine va_getN (D := G.1) (ci := 4) (v := .int (g 5)) (C := RX4) (T := TX4) (N := 14) hx hb hts zi_X5_holds_X4 hown hK.1 hP 1 rfl rfl 5 (by decide) (zn_9 hK) (fun _ h9 => h9) rfl dX5_holds_14 ?_
    refine lv_goto (tgt := 21) hx hb dX5_holds_17 (by decide) ?_
    have hP9 := hP.sub (ws' := [(x, .inr (5, [.ref (a 0), .ref y1, .ref y2, .ref (b 0)])), ((a 0), .inr (4, [.int (g 0), .int (g 1), .int (g 2), .int (g 3), .int (g 4), .int (g 5), .int (g 6), .int (g 7), .int (g 8), .int (g 9), .ref (a 1), .ref (a 2), .ref (a 3), .ref (a 4)]))]) [0, 1] rfl
    have hD9 := hD.sub (ws' := [(x, .inr (5, [.ref (a 0), .ref y1, .ref y2, .ref (b 0)])), ((a 0), .inr (4, [.int (g 0), .int (g 1), .int (g 2), .int (g 3), .int (g 4), .int (g 5), .int (g 6), .int (g 7), .int (g 8), .int (g 9), .ref (a 1), .ref (a 2), .ref (a 3), .ref (a 4)]))]) [0, 1] (by decide) rfl
    exact z_iret hx hb hr rfl hlocks () hP9 hD9 hS (Nat.le_of_ble_eq_true rfl) (Nat.le_of_ble_eq_true rfl) dX5_holds_21 (if_pos f_c_2).symm
theorem zw_X5_ticksToForget_f12 : Cond.fieldLink RX5 12 "LightReceiver" "now" "LLightReceiver$State;" ∈ wsX5_ticksToForget := by decide +kernel
theorem zi_X5_ticksToForget_X5 : ∀ w ∈ wsX50, w ∈ wsX5_ticksToForget := fun _ h => List.mem_cons_of_mem _ (List.mem_append_left _ (List.mem_append_right _ h))
theorem zi_X5_ticksToForget_X4 : ∀ w ∈ wsX40, w ∈ wsX5_ticksToForget := fun _ h => List.mem_cons_of_mem _ (List.mem_append_right _ h)
set_option maxHeartbeats 1000000 in
set_option maxRecDepth 100000 in
theorem c_X5_ticksToForget (l : Launch) (G : zG) (sz : Nat) (a b : Nat → Nat) (x y1 y2 : Nat) (g : zF) : zMi l yX5_ticksToForget wsX5_ticksToForget ({ frames := 1, cells := 0, slots := 0, locals := 20 } : Room) [.ref x] G [(x, .inr (5, [.ref (a 0), .ref y1, .ref y2, .ref (b 0)])), ((a 0), .inr (4, [.int (g 0), .int (g 1), .int (g 2), .int (g 3), .int (g 4), .int (g 5), .int (g 6), .int (g 7), .int (g 8), .int (g 9), .ref (a 1), .ref (a 2), .ref (a 3), .ref (a 4)]))] (fun (v : Int32) (_ : Unit) => v = if rmb g then 61 - g 6 else -1) (fun _ => [(x, .inr (5, [.ref (a 0), .ref y1, .ref y2, .ref (b 0)])), ((a 0), .inr (4, [.int (g 0), .int (g 1), .int (g 2), .int (g 3), .int (g 4), .int (g 5), .int (g 6), .int (g 7), .int (g 8), .int (g 9), .ref (a 1), .ref (a 2), .ref (a 3), .ref (a 4)]))]) sz 0 0 := by
  refine zMi_of (cc := cX5_ticksToForget) (maxL := 1) (ret := (some .int)) (by decide) rfl (Nat.le_of_ble_eq_true rfl) ?_
  intro p e s m args below meth c A ls hx hb hr hml hts hown hlocks hnm hK hP hD hAe hS hA hl hsz
  have hown : s.vm.findClass RX5 = some m.cls := hown
  have hP : va_P G.1 vwCl [(x, .inr (5, [.ref (a 0), .ref y1, .ref y2, .ref (b 0)])), ((a 0), .inr (4, [.int (g 0), .int (g 1), .int (g 2), .int (g 3), .int (g 4), .int (g 5), .int (g 6), .int (g 7), .int (g 8), .int (g 9), .ref (a 1), .ref (a 2), .ref (a 3), .ref (a 4)]))] s.heap := hP
  have hD : va_D A [(x, .inr (5, [.ref (a 0), .ref y1, .ref y2, .ref (b 0)])), ((a 0), .inr (4, [.int (g 0), .int (g 1), .int (g 2), .int (g 3), .int (g 4), .int (g 5), .int (g 6), .int (g 7), .int (g 8), .int (g 9), .ref (a 1), .ref (a 2), .ref (a 3), .ref (a 4)]))] := hD
  have hl : lv_has ls 1 [(0, .ref x)] := hl
  refine lv_aload_n hx hb dX5_ticksToForget_0 rfl (lv_at hl 0 rfl) ?_
  refine va_get (D := G.1) (ci := 5) (v := .ref (a 0)) (C := RX5) (T := TX5) (N := 4) hx hb hts zi_X5_ticksToForget_X5 hown hK.1 hP 0 rfl rfl 0 (by decide) (hts _ zw_X5_ticksToForget_f12) (fun _ h9 => h9) rfl dX5_ticksToForget_1 ?_
  have hPc := hP.sub (ws' := [((a 0), .inr (4, [.int (g 0), .int (g 1), .int (g 2), .int (g 3), .int (g 4), .int (g 5), .int (g 6), .int (g 7), .int (g 8), .int (g 9), .ref (a 1), .ref (a 2), .ref (a 3), .ref (a 4)]))]) [1] rfl
  have hDc := hD.sub (ws' := [((a 0), .inr (4, [.int (g 0), .int (g 1), .int (g 2), .int (g 3), .int (g 4), .int (g 5), .int (g 6), .int (g 7), .int (g 8), .int (g 9), .ref (a 1), .ref (a 2), .ref (a 3), .ref (a 4)]))]) [1] (by decide) rfl
  refine z_calli (wr := [(x, .inr (5, [.ref (a 0), .ref y1, .ref y2, .ref (b 0)]))]) (va_runV (As := []) (rest := []) ⟨hx, hb, hml, hown, hts⟩ (c_X4_remembers l G s.heap.size a g) (cwV 0 hts gX5_ticksToForget_X4_remembers rfl rfl rfl (by decide +kernel) ⟨(Nat.le_of_ble_eq_true rfl), (Nat.le_of_ble_eq_true rfl)⟩) (zV (ci := 4) (q0 := 0) hK hPc hDc rfl rfl) rfl rfl hl.1 rfl (lv_room (Nat.le_of_ble_eq_true rfl)) dX5_ticksToForget_4 ⟨(Nat.le_of_ble_eq_true rfl), (Nat.le_of_ble_eq_true rfl)⟩) hP hD hS hA [1] [0] rfl rfl (by decide) (by decide) (fun r_1 u_1 H locs hw_1 hP hD hS => ?_)
  subst hw_1
  have hP : va_P G.1 vwCl [(x, .inr (5, [.ref (a 0), .ref y1, .ref y2, .ref (b 0)])), ((a 0), .inr (4, [.int (g 0), .int (g 1), .int (g 2), .int (g 3), .int (g 4), .int (g 5), .int (g 6), .int (g 7), .int (g 8), .int (g 9), .ref (a 1), .ref (a 2), .ref (a 3), .ref (a 4)]))] H := hP
  have hD : va_D A [(x, .inr (5, [.ref (a 0), .ref y1, .ref y2, .ref (b 0)])), ((a 0), .inr (4, [.int (g 0), .int (g 1), .int (g 2), .int (g 3), .int (g 4), .int (g 5), .int (g 6), .int (g 7), .int (g 8), .int (g 9), .ref (a 1), .ref (a 2), .ref (a 3), .ref (a 4)]))] := hD
  refine lv_if_eq (tgt := 23) hx hb dX5_ticksToForget_7 (by decide) (fun c_2 => ?_) (fun c_2 => ?_)
  · have f_c_2 : ¬ (rmb g) := fun z => absurd c_2 (by rw [if_pos z]; decide)
    refine lv_iconst (v := -1) hx hb dX5_ticksToForget_23 (by decide) ?_
    have hP9 := hP.sub (ws' := [(x, .inr (5, [.ref (a 0), .ref y1, .ref y2, .ref (b 0)])), ((a 0), .inr (4, [.int (g 0), .int (g 1), .int (g 2), .int (g 3), .int (g 4), .int (g 5), .int (g 6), .int (g 7), .int (g 8), .int (g 9), .ref (a 1), .ref (a 2), .ref (a 3), .ref (a 4)]))]) [0, 1] rfl
    have hD9 := hD.sub (ws' := [(x, .inr (5, [.ref (a 0), .ref y1, .ref y2, .ref (b 0)])), ((a 0), .inr (4, [.int (g 0), .int (g 1), .int (g 2), .int (g 3), .int (g 4), .int (g 5), .int (g 6), .int (g 7), .int (g 8), .int (g 9), .ref (a 1), .ref (a 2), .ref (a 3), .ref (a 4)]))]) [0, 1] (by decide) rfl
    exact z_iret hx hb hr rfl hlocks () hP9 hD9 hS (Nat.le_of_ble_eq_true rfl) (Nat.le_of_ble_eq_true rfl) dX5_ticksToForget_24 (if_neg f_c_2).symm
  · have f_c_2 : rmb g := Decidable.byContradiction (fun z => c_2 (if_neg z))
    refine lv_bipush (v := 61) hx hb dX5_ticksToForget_10 (by decide) ?_
    refine lv_aload_n hx hb dX5_ticksToForget_12 rfl (lv_at hl 0 rfl) ?_
    refine va_get (D := G.1) (ci := 5) (v := .ref (a 0)) (C := RX5) (T := TX5) (N := 4) hx hb hts zi_X5_ticksToForget_X5 hown hK.1 hP 0 rfl rfl 0 (by decide) (hts _ zw_X5_ticksToForget_f12) (fun _ h9 => h9) rfl dX5_ticksToForget_13 ?_
    refine va_getN (D := G.1) (ci := 4) (v := .int (g 6)) (C := RX4) (T := TX4) (N := 14) hx hb hts zi_X5_ticksToForget_X4 hown hK.1 hP 1 rfl rfl 6 (by decide) (zn_2 hK) (fun _ h9 => h9) rfl dX5_ticksToForget_16 ?_
    refine lv_isub hx hb dX5_ticksToForget_19 ?_
    refine lv_goto (tgt := 24) hx hb dX5_ticksToForget_20 (by decide) ?_
    have hP9 := hP.sub (ws' := [(x, .inr (5, [.ref (a 0), .ref y1, .ref y2, .ref (b 0)])), ((a 0), .inr (4, [.int (g 0), .int (g 1), .int (g 2), .int (g 3), .int (g 4), .int (g 5), .int (g 6), .int (g 7), .int (g 8), .int (g 9), .ref (a 1), .ref (a 2), .ref (a 3), .ref (a 4)]))]) [0, 1] rfl
    have hD9 := hD.sub (ws' := [(x, .inr (5, [.ref (a 0), .ref y1, .ref y2, .ref (b 0)])), ((a 0), .inr (4, [.int (g 0), .int (g 1), .int (g 2), .int (g 3), .int (g 4), .int (g 5), .int (g 6), .int (g 7), .int (g 8), .int (g 9), .ref (a 1), .ref (a 2), .ref (a 3), .ref (a 4)]))]) [0, 1] (by decide) rfl
    exact z_iret hx hb hr rfl hlocks () hP9 hD9 hS (Nat.le_of_ble_eq_true rfl) (Nat.le_of_ble_eq_true rfl) dX5_ticksToForget_24 (if_pos f_c_2).symm
theorem zw_X5_action_f12 : Cond.fieldLink RX5 12 "LightReceiver" "now" "LLightReceiver$State;" ∈ wsX5_action := by decide +kernel
theorem zi_X5_action_X5 : ∀ w ∈ wsX50, w ∈ wsX5_action := fun _ h => List.mem_cons_of_mem _ (List.mem_append_left _ (List.mem_append_left _ (List.mem_append_left _ (List.mem_append_right _ h))))
theorem zi_X5_action_X4 : ∀ w ∈ wsX40, w ∈ wsX5_action := fun _ h => List.mem_cons_of_mem _ (List.mem_append_left _ (List.mem_append_left _ (List.mem_append_right _ h)))
set_option maxHeartbeats 1000000 in
set_option maxRecDepth 100000 in
theorem c_X5_action (l : Launch) (G : zG) (sz : Nat) (a b : Nat → Nat) (x y1 y2 : Nat) (g f0 : zF) (k9 : Nat) (hk9 : k9 < 16) : zMi l yX5_action wsX5_action ({ frames := 1, cells := 0, slots := 0, locals := 22 } : Room) [.ref x, .int (nI k9)] G [(x, .inr (5, [.ref (a 0), .ref y1, .ref y2, .ref (b 0)])), ((a 0), .inr (4, [.int (g 0), .int (g 1), .int (g 2), .int (g 3), .int (g 4), .int (g 5), .int (g 6), .int (g 7), .int (g 8), .int (g 9), .ref (a 1), .ref (a 2), .ref (a 3), .ref (a 4)])), ((a 1), .inr (2, [.ref (a 5), .int (nI 16)])), ((a 5), .inl (G.2.1 0, 16, .inl f0))] (fun (v : Int32) (_ : Unit) => v = f0 k9) (fun _ => [(x, .inr (5, [.ref (a 0), .ref y1, .ref y2, .ref (b 0)])), ((a 0), .inr (4, [.int (g 0), .int (g 1), .int (g 2), .int (g 3), .int (g 4), .int (g 5), .int (g 6), .int (g 7), .int (g 8), .int (g 9), .ref (a 1), .ref (a 2), .ref (a 3), .ref (a 4)])), ((a 1), .inr (2, [.ref (a 5), .int (nI 16)])), ((a 5), .inl (G.2.1 0, 16, .inl f0))]) sz 0 0 := by
  refine zMi_of (cc := cX5_action) (maxL := 2) (ret := (some .int)) (by decide) rfl (Nat.le_of_ble_eq_true rfl) ?_
  intro p e s m args below meth c A ls hx hb hr hml hts hown hlocks hnm hK hP hD hAe hS hA hl hsz
  have hown : s.vm.findClass RX5 = some m.cls := hown
  have hP : va_P G.1 vwCl [(x, .inr (5, [.ref (a 0), .ref y1, .ref y2, .ref (b 0)])), ((a 0), .inr (4, [.int (g 0), .int (g 1), .int (g 2), .int (g 3), .int (g 4), .int (g 5), .int (g 6), .int (g 7), .int (g 8), .int (g 9), .ref (a 1), .ref (a 2), .ref (a 3), .ref (a 4)])), ((a 1), .inr (2, [.ref (a 5), .int (nI 16)])), ((a 5), .inl (G.2.1 0, 16, .inl f0))] s.heap := hP
  have hD : va_D A [(x, .inr (5, [.ref (a 0), .ref y1, .ref y2, .ref (b 0)])), ((a 0), .inr (4, [.int (g 0), .int (g 1), .int (g 2), .int (g 3), .int (g 4), .int (g 5), .int (g 6), .int (g 7), .int (g 8), .int (g 9), .ref (a 1), .ref (a 2), .ref (a 3), .ref (a 4)])), ((a 1), .inr (2, [.ref (a 5), .int (nI 16)])), ((a 5), .inl (G.2.1 0, 16, .inl f0))] := hD
  have hl : lv_has ls 2 [(0, .ref x), (1, .int (nI k9))] := hl
  refine lv_iload_n hx hb dX5_action_0 rfl (lv_at hl 1 rfl) ?_
  refine lv_iconst (v := 0) hx hb dX5_action_1 (by decide) ?_
  refine lv_bipush (v := 15) hx hb dX5_action_2 (by decide) ?_
  have hPc := hP.sub (ws' := []) [] rfl
  have hDc := hD.sub (ws' := []) [] (by decide) rfl
  refine z_calli (wr := [(x, .inr (5, [.ref (a 0), .ref y1, .ref y2, .ref (b 0)])), ((a 0), .inr (4, [.int (g 0), .int (g 1), .int (g 2), .int (g 3), .int (g 4), .int (g 5), .int (g 6), .int (g 7), .int (g 8), .int (g 9), .ref (a 1), .ref (a 2), .ref (a 3), .ref (a 4)])), ((a 1), .inr (2, [.ref (a 5), .int (nI 16)])), ((a 5), .inl (G.2.1 0, 16, .inl f0))]) (va_runS (As := [.int (nI k9), .int 0, .int 15]) (rest := []) ⟨hx, hb, hml, hown, hts⟩ (c_X5_isWithin l G s.heap.size (nI k9) 0 15) (va_cwS 3 hts gX5_action_X5_isWithin rfl rfl rfl (by decide +kernel) ⟨(Nat.le_of_ble_eq_true rfl), (Nat.le_of_ble_eq_true rfl)⟩) (zS hK hPc hDc) rfl rfl hl.1 rfl (lv_room (Nat.le_of_ble_eq_true rfl)) dX5_action_4 ⟨(Nat.le_of_ble_eq_true rfl), (Nat.le_of_ble_eq_true rfl)⟩) hP hD hS hA [] [0, 1, 2, 3] rfl rfl (by decide) (by decide) (fun r_1 u_1 H locs hw_1 hP hD hS => ?_)
  subst hw_1
  have hP : va_P G.1 vwCl [(x, .inr (5, [.ref (a 0), .ref y1, .ref y2, .ref (b 0)])), ((a 0), .inr (4, [.int (g 0), .int (g 1), .int (g 2), .int (g 3), .int (g 4), .int (g 5), .int (g 6), .int (g 7), .int (g 8), .int (g 9), .ref (a 1), .ref (a 2), .ref (a 3), .ref (a 4)])), ((a 1), .inr (2, [.ref (a 5), .int (nI 16)])), ((a 5), .inl (G.2.1 0, 16, .inl f0))] H := hP
  have hD : va_D A [(x, .inr (5, [.ref (a 0), .ref y1, .ref y2, .ref (b 0)])), ((a 0), .inr (4, [.int (g 0), .int (g 1), .int (g 2), .int (g 3), .int (g 4), .int (g 5), .int (g 6), .int (g 7), .int (g 8), .int (g 9), .ref (a 1), .ref (a 2), .ref (a 3), .ref (a 4)])), ((a 1), .inr (2, [.ref (a 5), .int (nI 16)])), ((a 5), .inl (G.2.1 0, 16, .inl f0))] := hD
  refine z_top (if_pos (zin (l := 0) (n := 15) rfl rfl (by omega) (by omega) (by omega))) ?_
  have hPc := hP.sub (ws' := []) [] rfl
  have hDc := hD.sub (ws' := []) [] (by decide) rfl
  refine z_callv (wr := [(x, .inr (5, [.ref (a 0), .ref y1, .ref y2, .ref (b 0)])), ((a 0), .inr (4, [.int (g 0), .int (g 1), .int (g 2), .int (g 3), .int (g 4), .int (g 5), .int (g 6), .int (g 7), .int (g 8), .int (g 9), .ref (a 1), .ref (a 2), .ref (a 3), .ref (a 4)])), ((a 1), .inr (2, [.ref (a 5), .int (nI 16)])), ((a 5), .inl (G.2.1 0, 16, .inl f0))]) (va_runS (As := [.int 1]) (rest := []) ⟨hx, hb, hml, hown, hts⟩ (c_X5_checkIndex l G H.size) (va_cwS 1 hts gX5_action_X5_checkIndex rfl rfl rfl (by decide +kernel) ⟨(Nat.le_of_ble_eq_true rfl), (Nat.le_of_ble_eq_true rfl)⟩) (zS hK hPc hDc) rfl rfl hl.1 rfl (lv_room (Nat.le_of_ble_eq_true rfl)) dX5_action_7 ⟨(Nat.le_of_ble_eq_true rfl), (Nat.le_of_ble_eq_true rfl)⟩) hP hD hS hA [] [0, 1, 2, 3] rfl rfl (by decide) (by decide) (fun u_2 H locs hw_2 hP hD hS => ?_)
  have hP : va_P G.1 vwCl [(x, .inr (5, [.ref (a 0), .ref y1, .ref y2, .ref (b 0)])), ((a 0), .inr (4, [.int (g 0), .int (g 1), .int (g 2), .int (g 3), .int (g 4), .int (g 5), .int (g 6), .int (g 7), .int (g 8), .int (g 9), .ref (a 1), .ref (a 2), .ref (a 3), .ref (a 4)])), ((a 1), .inr (2, [.ref (a 5), .int (nI 16)])), ((a 5), .inl (G.2.1 0, 16, .inl f0))] H := hP
  have hD : va_D A [(x, .inr (5, [.ref (a 0), .ref y1, .ref y2, .ref (b 0)])), ((a 0), .inr (4, [.int (g 0), .int (g 1), .int (g 2), .int (g 3), .int (g 4), .int (g 5), .int (g 6), .int (g 7), .int (g 8), .int (g 9), .ref (a 1), .ref (a 2), .ref (a 3), .ref (a 4)])), ((a 1), .inr (2, [.ref (a 5), .int (nI 16)])), ((a 5), .inl (G.2.1 0, 16, .inl f0))] := hD
  refine lv_aload_n hx hb dX5_action_10 rfl (lv_at hl 0 rfl) ?_
  refine va_get (D := G.1) (ci := 5) (v := .ref (a 0)) (C := RX5) (T := TX5) (N := 4) hx hb hts zi_X5_action_X5 hown hK.1 hP 0 rfl rfl 0 (by decide) (hts _ zw_X5_action_f12) (fun _ h9 => h9) rfl dX5_action_11 ?_
  refine va_getN (D := G.1) (ci := 4) (v := .ref (a 1)) (C := RX4) (T := TX4) (N := 14) hx hb hts zi_X5_action_X4 hown hK.1 hP 1 rfl rfl 10 (by decide) (zn_5 hK) (fun _ h9 => h9) rfl dX5_action_14 ?_
  refine lv_iload_n hx hb dX5_action_17 rfl (lv_at hl 1 rfl) ?_
  have hPc := hP.sub (ws' := [((a 1), .inr (2, [.ref (a 5), .int (nI 16)])), ((a 5), .inl (G.2.1 0, 16, .inl f0))]) [2, 3] rfl
  have hDc := hD.sub (ws' := [((a 1), .inr (2, [.ref (a 5), .int (nI 16)])), ((a 5), .inl (G.2.1 0, 16, .inl f0))]) [2, 3] (by decide) rfl
  refine z_calli (wr := [(x, .inr (5, [.ref (a 0), .ref y1, .ref y2, .ref (b 0)])), ((a 0), .inr (4, [.int (g 0), .int (g 1), .int (g 2), .int (g 3), .int (g 4), .int (g 5), .int (g 6), .int (g 7), .int (g 8), .int (g 9), .ref (a 1), .ref (a 2), .ref (a 3), .ref (a 4)]))]) (va_runV (As := [.int (nI k9)]) (rest := []) ⟨hx, hb, hml, hown, hts⟩ (c_X2_at l G H.size (a 1) (a 5) 16 k9 16 f0 (by omega) (by omega) (by omega)) (cwV 1 hts gX5_action_X2_at rfl rfl rfl (by decide +kernel) ⟨(Nat.le_of_ble_eq_true rfl), (Nat.le_of_ble_eq_true rfl)⟩) (zV (ci := 2) (q0 := 0) hK hPc hDc rfl rfl) rfl rfl hl.1 rfl (lv_room (Nat.le_of_ble_eq_true rfl)) dX5_action_18 ⟨(Nat.le_of_ble_eq_true rfl), (Nat.le_of_ble_eq_true rfl)⟩) hP hD hS hA [2, 3] [0, 1] rfl rfl (by decide) (by decide) (fun r_3 u_3 H locs hw_3 hP hD hS => ?_)
  subst hw_3
  have hP : va_P G.1 vwCl [(x, .inr (5, [.ref (a 0), .ref y1, .ref y2, .ref (b 0)])), ((a 0), .inr (4, [.int (g 0), .int (g 1), .int (g 2), .int (g 3), .int (g 4), .int (g 5), .int (g 6), .int (g 7), .int (g 8), .int (g 9), .ref (a 1), .ref (a 2), .ref (a 3), .ref (a 4)])), ((a 1), .inr (2, [.ref (a 5), .int (nI 16)])), ((a 5), .inl (G.2.1 0, 16, .inl f0))] H := hP
  have hD : va_D A [(x, .inr (5, [.ref (a 0), .ref y1, .ref y2, .ref (b 0)])), ((a 0), .inr (4, [.int (g 0), .int (g 1), .int (g 2), .int (g 3), .int (g 4), .int (g 5), .int (g 6), .int (g 7), .int (g 8), .int (g 9), .ref (a 1), .ref (a 2), .ref (a 3), .ref (a 4)])), ((a 1), .inr (2, [.ref (a 5), .int (nI 16)])), ((a 5), .inl (G.2.1 0, 16, .inl f0))] := hD
  have hP9 := hP.sub (ws' := [(x, .inr (5, [.ref (a 0), .ref y1, .ref y2, .ref (b 0)])), ((a 0), .inr (4, [.int (g 0), .int (g 1), .int (g 2), .int (g 3), .int (g 4), .int (g 5), .int (g 6), .int (g 7), .int (g 8), .int (g 9), .ref (a 1), .ref (a 2), .ref (a 3), .ref (a 4)])), ((a 1), .inr (2, [.ref (a 5), .int (nI 16)])), ((a 5), .inl (G.2.1 0, 16, .inl f0))]) [0, 1, 2, 3] rfl
  have hD9 := hD.sub (ws' := [(x, .inr (5, [.ref (a 0), .ref y1, .ref y2, .ref (b 0)])), ((a 0), .inr (4, [.int (g 0), .int (g 1), .int (g 2), .int (g 3), .int (g 4), .int (g 5), .int (g 6), .int (g 7), .int (g 8), .int (g 9), .ref (a 1), .ref (a 2), .ref (a 3), .ref (a 4)])), ((a 1), .inr (2, [.ref (a 5), .int (nI 16)])), ((a 5), .inl (G.2.1 0, 16, .inl f0))]) [0, 1, 2, 3] (by decide) rfl
  exact z_iret hx hb hr rfl hlocks () hP9 hD9 hS (Nat.le_of_ble_eq_true rfl) (Nat.le_of_ble_eq_true rfl) dX5_action_21 rfl
theorem zw_X5_done_f12 : Cond.fieldLink RX5 12 "LightReceiver" "now" "LLightReceiver$State;" ∈ wsX5_done := by decide +kernel
theorem zi_X5_done_X5 : ∀ w ∈ wsX50, w ∈ wsX5_done := fun _ h => List.mem_cons_of_mem _ (List.mem_append_left _ (List.mem_append_left _ (List.mem_append_left _ (List.mem_append_right _ h))))
theorem zi_X5_done_X4 : ∀ w ∈ wsX40, w ∈ wsX5_done := fun _ h => List.mem_cons_of_mem _ (List.mem_append_left _ (List.mem_append_left _ (List.mem_append_right _ h)))
set_option maxHeartbeats 1000000 in
set_option maxRecDepth 100000 in
theorem c_X5_done (l : Launch) (G : zG) (sz : Nat) (a b : Nat → Nat) (x y1 y2 : Nat) (g f1 : zF) (k9 : Nat) (hk9 : k9 < 16) : zMi l yX5_done wsX5_done ({ frames := 1, cells := 0, slots := 0, locals := 22 } : Room) [.ref x, .int (nI k9)] G [(x, .inr (5, [.ref (a 0), .ref y1, .ref y2, .ref (b 0)])), ((a 0), .inr (4, [.int (g 0), .int (g 1), .int (g 2), .int (g 3), .int (g 4), .int (g 5), .int (g 6), .int (g 7), .int (g 8), .int (g 9), .ref (a 1), .ref (a 2), .ref (a 3), .ref (a 4)])), ((a 2), .inr (2, [.ref (a 6), .int (nI 16)])), ((a 6), .inl (G.2.1 0, 16, .inl f1))] (fun (v : Int32) (_ : Unit) => v = f1 k9) (fun _ => [(x, .inr (5, [.ref (a 0), .ref y1, .ref y2, .ref (b 0)])), ((a 0), .inr (4, [.int (g 0), .int (g 1), .int (g 2), .int (g 3), .int (g 4), .int (g 5), .int (g 6), .int (g 7), .int (g 8), .int (g 9), .ref (a 1), .ref (a 2), .ref (a 3), .ref (a 4)])), ((a 2), .inr (2, [.ref (a 6), .int (nI 16)])), ((a 6), .inl (G.2.1 0, 16, .inl f1))]) sz 0 0 := by
  refine zMi_of (cc := cX5_done) (maxL := 2) (ret := (some .int)) (by decide) rfl (Nat.le_of_ble_eq_true rfl) ?_
  intro p e s m args below meth c A ls hx hb hr hml hts hown hlocks hnm hK hP hD hAe hS hA hl hsz
  have hown : s.vm.findClass RX5 = some m.cls := hown
  have hP : va_P G.1 vwCl [(x, .inr (5, [.ref (a 0), .ref y1, .ref y2, .ref (b 0)])), ((a 0), .inr (4, [.int (g 0), .int (g 1), .int (g 2), .int (g 3), .int (g 4), .int (g 5), .int (g 6), .int (g 7), .int (g 8), .int (g 9), .ref (a 1), .ref (a 2), .ref (a 3), .ref (a 4)])), ((a 2), .inr (2, [.ref (a 6), .int (nI 16)])), ((a 6), .inl (G.2.1 0, 16, .inl f1))] s.heap := hP
  have hD : va_D A [(x, .inr (5, [.ref (a 0), .ref y1, .ref y2, .ref (b 0)])), ((a 0), .inr (4, [.int (g 0), .int (g 1), .int (g 2), .int (g 3), .int (g 4), .int (g 5), .int (g 6), .int (g 7), .int (g 8), .int (g 9), .ref (a 1), .ref (a 2), .ref (a 3), .ref (a 4)])), ((a 2), .inr (2, [.ref (a 6), .int (nI 16)])), ((a 6), .inl (G.2.1 0, 16, .inl f1))] := hD
  have hl : lv_has ls 2 [(0, .ref x), (1, .int (nI k9))] := hl
  refine lv_iload_n hx hb dX5_done_0 rfl (lv_at hl 1 rfl) ?_
  refine lv_iconst (v := 0) hx hb dX5_done_1 (by decide) ?_
  refine lv_bipush (v := 15) hx hb dX5_done_2 (by decide) ?_
  have hPc := hP.sub (ws' := []) [] rfl
  have hDc := hD.sub (ws' := []) [] (by decide) rfl
  refine z_calli (wr := [(x, .inr (5, [.ref (a 0), .ref y1, .ref y2, .ref (b 0)])), ((a 0), .inr (4, [.int (g 0), .int (g 1), .int (g 2), .int (g 3), .int (g 4), .int (g 5), .int (g 6), .int (g 7), .int (g 8), .int (g 9), .ref (a 1), .ref (a 2), .ref (a 3), .ref (a 4)])), ((a 2), .inr (2, [.ref (a 6), .int (nI 16)])), ((a 6), .inl (G.2.1 0, 16, .inl f1))]) (va_runS (As := [.int (nI k9), .int 0, .int 15]) (rest := []) ⟨hx, hb, hml, hown, hts⟩ (c_X5_isWithin l G s.heap.size (nI k9) 0 15) (va_cwS 3 hts gX5_done_X5_isWithin rfl rfl rfl (by decide +kernel) ⟨(Nat.le_of_ble_eq_true rfl), (Nat.le_of_ble_eq_true rfl)⟩) (zS hK hPc hDc) rfl rfl hl.1 rfl (lv_room (Nat.le_of_ble_eq_true rfl)) dX5_done_4 ⟨(Nat.le_of_ble_eq_true rfl), (Nat.le_of_ble_eq_true rfl)⟩) hP hD hS hA [] [0, 1, 2, 3] rfl rfl (by decide) (by decide) (fun r_1 u_1 H locs hw_1 hP hD hS => ?_)
  subst hw_1
  have hP : va_P G.1 vwCl [(x, .inr (5, [.ref (a 0), .ref y1, .ref y2, .ref (b 0)])), ((a 0), .inr (4, [.int (g 0), .int (g 1), .int (g 2), .int (g 3), .int (g 4), .int (g 5), .int (g 6), .int (g 7), .int (g 8), .int (g 9), .ref (a 1), .ref (a 2), .ref (a 3), .ref (a 4)])), ((a 2), .inr (2, [.ref (a 6), .int (nI 16)])), ((a 6), .inl (G.2.1 0, 16, .inl f1))] H := hP
  have hD : va_D A [(x, .inr (5, [.ref (a 0), .ref y1, .ref y2, .ref (b 0)])), ((a 0), .inr (4, [.int (g 0), .int (g 1), .int (g 2), .int (g 3), .int (g 4), .int (g 5), .int (g 6), .int (g 7), .int (g 8), .int (g 9), .ref (a 1), .ref (a 2), .ref (a 3), .ref (a 4)])), ((a 2), .inr (2, [.ref (a 6), .int (nI 16)])), ((a 6), .inl (G.2.1 0, 16, .inl f1))] := hD
  refine z_top (if_pos (zin (l := 0) (n := 15) rfl rfl (by omega) (by omega) (by omega))) ?_
  have hPc := hP.sub (ws' := []) [] rfl
  have hDc := hD.sub (ws' := []) [] (by decide) rfl
  refine z_callv (wr := [(x, .inr (5, [.ref (a 0), .ref y1, .ref y2, .ref (b 0)])), ((a 0), .inr (4, [.int (g 0), .int (g 1), .int (g 2), .int (g 3), .int (g 4), .int (g 5), .int (g 6), .int (g 7), .int (g 8), .int (g 9), .ref (a 1), .ref (a 2), .ref (a 3), .ref (a 4)])), ((a 2), .inr (2, [.ref (a 6), .int (nI 16)])), ((a 6), .inl (G.2.1 0, 16, .inl f1))]) (va_runS (As := [.int 1]) (rest := []) ⟨hx, hb, hml, hown, hts⟩ (c_X5_checkIndex l G H.size) (va_cwS 1 hts gX5_done_X5_checkIndex rfl rfl rfl (by decide +kernel) ⟨(Nat.le_of_ble_eq_true rfl), (Nat.le_of_ble_eq_true rfl)⟩) (zS hK hPc hDc) rfl rfl hl.1 rfl (lv_room (Nat.le_of_ble_eq_true rfl)) dX5_done_7 ⟨(Nat.le_of_ble_eq_true rfl), (Nat.le_of_ble_eq_true rfl)⟩) hP hD hS hA [] [0, 1, 2, 3] rfl rfl (by decide) (by decide) (fun u_2 H locs hw_2 hP hD hS => ?_)
  have hP : va_P G.1 vwCl [(x, .inr (5, [.ref (a 0), .ref y1, .ref y2, .ref (b 0)])), ((a 0), .inr (4, [.int (g 0), .int (g 1), .int (g 2), .int (g 3), .int (g 4), .int (g 5), .int (g 6), .int (g 7), .int (g 8), .int (g 9), .ref (a 1), .ref (a 2), .ref (a 3), .ref (a 4)])), ((a 2), .inr (2, [.ref (a 6), .int (nI 16)])), ((a 6), .inl (G.2.1 0, 16, .inl f1))] H := hP
  have hD : va_D A [(x, .inr (5, [.ref (a 0), .ref y1, .ref y2, .ref (b 0)])), ((a 0), .inr (4, [.int (g 0), .int (g 1), .int (g 2), .int (g 3), .int (g 4), .int (g 5), .int (g 6), .int (g 7), .int (g 8), .int (g 9), .ref (a 1), .ref (a 2), .ref (a 3), .ref (a 4)])), ((a 2), .inr (2, [.ref (a 6), .int (nI 16)])), ((a 6), .inl (G.2.1 0, 16, .inl f1))] := hD
  refine lv_aload_n hx hb dX5_done_10 rfl (lv_at hl 0 rfl) ?_
  refine va_get (D := G.1) (ci := 5) (v := .ref (a 0)) (C := RX5) (T := TX5) (N := 4) hx hb hts zi_X5_done_X5 hown hK.1 hP 0 rfl rfl 0 (by decide) (hts _ zw_X5_done_f12) (fun _ h9 => h9) rfl dX5_done_11 ?_
  refine va_getN (D := G.1) (ci := 4) (v := .ref (a 2)) (C := RX4) (T := TX4) (N := 14) hx hb hts zi_X5_done_X4 hown hK.1 hP 1 rfl rfl 11 (by decide) (zn_7 hK) (fun _ h9 => h9) rfl dX5_done_14 ?_
  refine lv_iload_n hx hb dX5_done_17 rfl (lv_at hl 1 rfl) ?_
  have hPc := hP.sub (ws' := [((a 2), .inr (2, [.ref (a 6), .int (nI 16)])), ((a 6), .inl (G.2.1 0, 16, .inl f1))]) [2, 3] rfl
  have hDc := hD.sub (ws' := [((a 2), .inr (2, [.ref (a 6), .int (nI 16)])), ((a 6), .inl (G.2.1 0, 16, .inl f1))]) [2, 3] (by decide) rfl
  refine z_calli (wr := [(x, .inr (5, [.ref (a 0), .ref y1, .ref y2, .ref (b 0)])), ((a 0), .inr (4, [.int (g 0), .int (g 1), .int (g 2), .int (g 3), .int (g 4), .int (g 5), .int (g 6), .int (g 7), .int (g 8), .int (g 9), .ref (a 1), .ref (a 2), .ref (a 3), .ref (a 4)]))]) (va_runV (As := [.int (nI k9)]) (rest := []) ⟨hx, hb, hml, hown, hts⟩ (c_X2_at l G H.size (a 2) (a 6) 16 k9 16 f1 (by omega) (by omega) (by omega)) (cwV 1 hts gX5_done_X2_at rfl rfl rfl (by decide +kernel) ⟨(Nat.le_of_ble_eq_true rfl), (Nat.le_of_ble_eq_true rfl)⟩) (zV (ci := 2) (q0 := 0) hK hPc hDc rfl rfl) rfl rfl hl.1 rfl (lv_room (Nat.le_of_ble_eq_true rfl)) dX5_done_18 ⟨(Nat.le_of_ble_eq_true rfl), (Nat.le_of_ble_eq_true rfl)⟩) hP hD hS hA [2, 3] [0, 1] rfl rfl (by decide) (by decide) (fun r_3 u_3 H locs hw_3 hP hD hS => ?_)
  subst hw_3
  have hP : va_P G.1 vwCl [(x, .inr (5, [.ref (a 0), .ref y1, .ref y2, .ref (b 0)])), ((a 0), .inr (4, [.int (g 0), .int (g 1), .int (g 2), .int (g 3), .int (g 4), .int (g 5), .int (g 6), .int (g 7), .int (g 8), .int (g 9), .ref (a 1), .ref (a 2), .ref (a 3), .ref (a 4)])), ((a 2), .inr (2, [.ref (a 6), .int (nI 16)])), ((a 6), .inl (G.2.1 0, 16, .inl f1))] H := hP
  have hD : va_D A [(x, .inr (5, [.ref (a 0), .ref y1, .ref y2, .ref (b 0)])), ((a 0), .inr (4, [.int (g 0), .int (g 1), .int (g 2), .int (g 3), .int (g 4), .int (g 5), .int (g 6), .int (g 7), .int (g 8), .int (g 9), .ref (a 1), .ref (a 2), .ref (a 3), .ref (a 4)])), ((a 2), .inr (2, [.ref (a 6), .int (nI 16)])), ((a 6), .inl (G.2.1 0, 16, .inl f1))] := hD
  have hP9 := hP.sub (ws' := [(x, .inr (5, [.ref (a 0), .ref y1, .ref y2, .ref (b 0)])), ((a 0), .inr (4, [.int (g 0), .int (g 1), .int (g 2), .int (g 3), .int (g 4), .int (g 5), .int (g 6), .int (g 7), .int (g 8), .int (g 9), .ref (a 1), .ref (a 2), .ref (a 3), .ref (a 4)])), ((a 2), .inr (2, [.ref (a 6), .int (nI 16)])), ((a 6), .inl (G.2.1 0, 16, .inl f1))]) [0, 1, 2, 3] rfl
  have hD9 := hD.sub (ws' := [(x, .inr (5, [.ref (a 0), .ref y1, .ref y2, .ref (b 0)])), ((a 0), .inr (4, [.int (g 0), .int (g 1), .int (g 2), .int (g 3), .int (g 4), .int (g 5), .int (g 6), .int (g 7), .int (g 8), .int (g 9), .ref (a 1), .ref (a 2), .ref (a 3), .ref (a 4)])), ((a 2), .inr (2, [.ref (a 6), .int (nI 16)])), ((a 6), .inl (G.2.1 0, 16, .inl f1))]) [0, 1, 2, 3] (by decide) rfl
  exact z_iret hx hb hr rfl hlocks () hP9 hD9 hS (Nat.le_of_ble_eq_true rfl) (Nat.le_of_ble_eq_true rfl) dX5_done_21 rfl
theorem zw_X5_refused_f12 : Cond.fieldLink RX5 12 "LightReceiver" "now" "LLightReceiver$State;" ∈ wsX5_refused := by decide +kernel
theorem zi_X5_refused_X5 : ∀ w ∈ wsX50, w ∈ wsX5_refused := fun _ h => List.mem_cons_of_mem _ (List.mem_append_left _ (List.mem_append_left _ (List.mem_append_left _ (List.mem_append_right _ h))))
theorem zi_X5_refused_X4 : ∀ w ∈ wsX40, w ∈ wsX5_refused := fun _ h => List.mem_cons_of_mem _ (List.mem_append_left _ (List.mem_append_left _ (List.mem_append_right _ h)))
set_option maxHeartbeats 1000000 in
set_option maxRecDepth 100000 in
theorem c_X5_refused (l : Launch) (G : zG) (sz : Nat) (a b : Nat → Nat) (x y1 y2 : Nat) (g f2 : zF) (k9 : Nat) (hk1 : 1 ≤ k9) (hk9 : k9 ≤ 6) : zMi l yX5_refused wsX5_refused ({ frames := 1, cells := 0, slots := 0, locals := 22 } : Room) [.ref x, .int (nI k9)] G [(x, .inr (5, [.ref (a 0), .ref y1, .ref y2, .ref (b 0)])), ((a 0), .inr (4, [.int (g 0), .int (g 1), .int (g 2), .int (g 3), .int (g 4), .int (g 5), .int (g 6), .int (g 7), .int (g 8), .int (g 9), .ref (a 1), .ref (a 2), .ref (a 3), .ref (a 4)])), ((a 3), .inr (2, [.ref (a 7), .int (nI 7)])), ((a 7), .inl (G.2.1 0, 7, .inl f2))] (fun (v : Int32) (_ : Unit) => v = f2 k9) (fun _ => [(x, .inr (5, [.ref (a 0), .ref y1, .ref y2, .ref (b 0)])), ((a 0), .inr (4, [.int (g 0), .int (g 1), .int (g 2), .int (g 3), .int (g 4), .int (g 5), .int (g 6), .int (g 7), .int (g 8), .int (g 9), .ref (a 1), .ref (a 2), .ref (a 3), .ref (a 4)])), ((a 3), .inr (2, [.ref (a 7), .int (nI 7)])), ((a 7), .inl (G.2.1 0, 7, .inl f2))]) sz 0 0 := by
  refine zMi_of (cc := cX5_refused) (maxL := 2) (ret := (some .int)) (by decide) rfl (Nat.le_of_ble_eq_true rfl) ?_
  intro p e s m args below meth c A ls hx hb hr hml hts hown hlocks hnm hK hP hD hAe hS hA hl hsz
  have hown : s.vm.findClass RX5 = some m.cls := hown
  have hP : va_P G.1 vwCl [(x, .inr (5, [.ref (a 0), .ref y1, .ref y2, .ref (b 0)])), ((a 0), .inr (4, [.int (g 0), .int (g 1), .int (g 2), .int (g 3), .int (g 4), .int (g 5), .int (g 6), .int (g 7), .int (g 8), .int (g 9), .ref (a 1), .ref (a 2), .ref (a 3), .ref (a 4)])), ((a 3), .inr (2, [.ref (a 7), .int (nI 7)])), ((a 7), .inl (G.2.1 0, 7, .inl f2))] s.heap := hP
  have hD : va_D A [(x, .inr (5, [.ref (a 0), .ref y1, .ref y2, .ref (b 0)])), ((a 0), .inr (4, [.int (g 0), .int (g 1), .int (g 2), .int (g 3), .int (g 4), .int (g 5), .int (g 6), .int (g 7), .int (g 8), .int (g 9), .ref (a 1), .ref (a 2), .ref (a 3), .ref (a 4)])), ((a 3), .inr (2, [.ref (a 7), .int (nI 7)])), ((a 7), .inl (G.2.1 0, 7, .inl f2))] := hD
  have hl : lv_has ls 2 [(0, .ref x), (1, .int (nI k9))] := hl
  refine lv_iload_n hx hb dX5_refused_0 rfl (lv_at hl 1 rfl) ?_
  refine lv_iconst (v := 1) hx hb dX5_refused_1 (by decide) ?_
  refine lv_bipush (v := 6) hx hb dX5_refused_2 (by decide) ?_
  have hPc := hP.sub (ws' := []) [] rfl
  have hDc := hD.sub (ws' := []) [] (by decide) rfl
  refine z_calli (wr := [(x, .inr (5, [.ref (a 0), .ref y1, .ref y2, .ref (b 0)])), ((a 0), .inr (4, [.int (g 0), .int (g 1), .int (g 2), .int (g 3), .int (g 4), .int (g 5), .int (g 6), .int (g 7), .int (g 8), .int (g 9), .ref (a 1), .ref (a 2), .ref (a 3), .ref (a 4)])), ((a 3), .inr (2, [.ref (a 7), .int (nI 7)])), ((a 7), .inl (G.2.1 0, 7, .inl f2))]) (va_runS (As := [.int (nI k9), .int 1, .int 6]) (rest := []) ⟨hx, hb, hml, hown, hts⟩ (c_X5_isWithin l G s.heap.size (nI k9) 1 6) (va_cwS 3 hts gX5_refused_X5_isWithin rfl rfl rfl (by decide +kernel) ⟨(Nat.le_of_ble_eq_true rfl), (Nat.le_of_ble_eq_true rfl)⟩) (zS hK hPc hDc) rfl rfl hl.1 rfl (lv_room (Nat.le_of_ble_eq_true rfl)) dX5_refused_4 ⟨(Nat.le_of_ble_eq_true rfl), (Nat.le_of_ble_eq_true rfl)⟩) hP hD hS hA [] [0, 1, 2, 3] rfl rfl (by decide) (by decide) (fun r_1 u_1 H locs hw_1 hP hD hS => ?_)
  subst hw_1
  have hP : va_P G.1 vwCl [(x, .inr (5, [.ref (a 0), .ref y1, .ref y2, .ref (b 0)])), ((a 0), .inr (4, [.int (g 0), .int (g 1), .int (g 2), .int (g 3), .int (g 4), .int (g 5), .int (g 6), .int (g 7), .int (g 8), .int (g 9), .ref (a 1), .ref (a 2), .ref (a 3), .ref (a 4)])), ((a 3), .inr (2, [.ref (a 7), .int (nI 7)])), ((a 7), .inl (G.2.1 0, 7, .inl f2))] H := hP
  have hD : va_D A [(x, .inr (5, [.ref (a 0), .ref y1, .ref y2, .ref (b 0)])), ((a 0), .inr (4, [.int (g 0), .int (g 1), .int (g 2), .int (g 3), .int (g 4), .int (g 5), .int (g 6), .int (g 7), .int (g 8), .int (g 9), .ref (a 1), .ref (a 2), .ref (a 3), .ref (a 4)])), ((a 3), .inr (2, [.ref (a 7), .int (nI 7)])), ((a 7), .inl (G.2.1 0, 7, .inl f2))] := hD
  refine z_top (if_pos (zin (l := 1) (n := 6) rfl rfl (by omega) (by omega) (by omega))) ?_
  have hPc := hP.sub (ws' := []) [] rfl
  have hDc := hD.sub (ws' := []) [] (by decide) rfl
  refine z_callv (wr := [(x, .inr (5, [.ref (a 0), .ref y1, .ref y2, .ref (b 0)])), ((a 0), .inr (4, [.int (g 0), .int (g 1), .int (g 2), .int (g 3), .int (g 4), .int (g 5), .int (g 6), .int (g 7), .int (g 8), .int (g 9), .ref (a 1), .ref (a 2), .ref (a 3), .ref (a 4)])), ((a 3), .inr (2, [.ref (a 7), .int (nI 7)])), ((a 7), .inl (G.2.1 0, 7, .inl f2))]) (va_runS (As := [.int 1]) (rest := []) ⟨hx, hb, hml, hown, hts⟩ (c_X5_checkIndex l G H.size) (va_cwS 1 hts gX5_refused_X5_checkIndex rfl rfl rfl (by decide +kernel) ⟨(Nat.le_of_ble_eq_true rfl), (Nat.le_of_ble_eq_true rfl)⟩) (zS hK hPc hDc) rfl rfl hl.1 rfl (lv_room (Nat.le_of_ble_eq_true rfl)) dX5_refused_7 ⟨(Nat.le_of_ble_eq_true rfl), (Nat.le_of_ble_eq_true rfl)⟩) hP hD hS hA [] [0, 1, 2, 3] rfl rfl (by decide) (by decide) (fun u_2 H locs hw_2 hP hD hS => ?_)
  have hP : va_P G.1 vwCl [(x, .inr (5, [.ref (a 0), .ref y1, .ref y2, .ref (b 0)])), ((a 0), .inr (4, [.int (g 0), .int (g 1), .int (g 2), .int (g 3), .int (g 4), .int (g 5), .int (g 6), .int (g 7), .int (g 8), .int (g 9), .ref (a 1), .ref (a 2), .ref (a 3), .ref (a 4)])), ((a 3), .inr (2, [.ref (a 7), .int (nI 7)])), ((a 7), .inl (G.2.1 0, 7, .inl f2))] H := hP
  have hD : va_D A [(x, .inr (5, [.ref (a 0), .ref y1, .ref y2, .ref (b 0)])), ((a 0), .inr (4, [.int (g 0), .int (g 1), .int (g 2), .int (g 3), .int (g 4), .int (g 5), .int (g 6), .int (g 7), .int (g 8), .int (g 9), .ref (a 1), .ref (a 2), .ref (a 3), .ref (a 4)])), ((a 3), .inr (2, [.ref (a 7), .int (nI 7)])), ((a 7), .inl (G.2.1 0, 7, .inl f2))] := hD
  refine lv_aload_n hx hb dX5_refused_10 rfl (lv_at hl 0 rfl) ?_
  refine va_get (D := G.1) (ci := 5) (v := .ref (a 0)) (C := RX5) (T := TX5) (N := 4) hx hb hts zi_X5_refused_X5 hown hK.1 hP 0 rfl rfl 0 (by decide) (hts _ zw_X5_refused_f12) (fun _ h9 => h9) rfl dX5_refused_11 ?_
  refine va_getN (D := G.1) (ci := 4) (v := .ref (a 3)) (C := RX4) (T := TX4) (N := 14) hx hb hts zi_X5_refused_X4 hown hK.1 hP 1 rfl rfl 12 (by decide) (zn_11 hK) (fun _ h9 => h9) rfl dX5_refused_14 ?_
  refine lv_iload_n hx hb dX5_refused_17 rfl (lv_at hl 1 rfl) ?_
  have hPc := hP.sub (ws' := [((a 3), .inr (2, [.ref (a 7), .int (nI 7)])), ((a 7), .inl (G.2.1 0, 7, .inl f2))]) [2, 3] rfl
  have hDc := hD.sub (ws' := [((a 3), .inr (2, [.ref (a 7), .int (nI 7)])), ((a 7), .inl (G.2.1 0, 7, .inl f2))]) [2, 3] (by decide) rfl
  refine z_calli (wr := [(x, .inr (5, [.ref (a 0), .ref y1, .ref y2, .ref (b 0)])), ((a 0), .inr (4, [.int (g 0), .int (g 1), .int (g 2), .int (g 3), .int (g 4), .int (g 5), .int (g 6), .int (g 7), .int (g 8), .int (g 9), .ref (a 1), .ref (a 2), .ref (a 3), .ref (a 4)]))]) (va_runV (As := [.int (nI k9)]) (rest := []) ⟨hx, hb, hml, hown, hts⟩ (c_X2_at l G H.size (a 3) (a 7) 7 k9 7 f2 (by omega) (by omega) (by omega)) (cwV 1 hts gX5_refused_X2_at rfl rfl rfl (by decide +kernel) ⟨(Nat.le_of_ble_eq_true rfl), (Nat.le_of_ble_eq_true rfl)⟩) (zV (ci := 2) (q0 := 0) hK hPc hDc rfl rfl) rfl rfl hl.1 rfl (lv_room (Nat.le_of_ble_eq_true rfl)) dX5_refused_18 ⟨(Nat.le_of_ble_eq_true rfl), (Nat.le_of_ble_eq_true rfl)⟩) hP hD hS hA [2, 3] [0, 1] rfl rfl (by decide) (by decide) (fun r_3 u_3 H locs hw_3 hP hD hS => ?_)
  subst hw_3
  have hP : va_P G.1 vwCl [(x, .inr (5, [.ref (a 0), .ref y1, .ref y2, .ref (b 0)])), ((a 0), .inr (4, [.int (g 0), .int (g 1), .int (g 2), .int (g 3), .int (g 4), .int (g 5), .int (g 6), .int (g 7), .int (g 8), .int (g 9), .ref (a 1), .ref (a 2), .ref (a 3), .ref (a 4)])), ((a 3), .inr (2, [.ref (a 7), .int (nI 7)])), ((a 7), .inl (G.2.1 0, 7, .inl f2))] H := hP
  have hD : va_D A [(x, .inr (5, [.ref (a 0), .ref y1, .ref y2, .ref (b 0)])), ((a 0), .inr (4, [.int (g 0), .int (g 1), .int (g 2), .int (g 3), .int (g 4), .int (g 5), .int (g 6), .int (g 7), .int (g 8), .int (g 9), .ref (a 1), .ref (a 2), .ref (a 3), .ref (a 4)])), ((a 3), .inr (2, [.ref (a 7), .int (nI 7)])), ((a 7), .inl (G.2.1 0, 7, .inl f2))] := hD
  have hP9 := hP.sub (ws' := [(x, .inr (5, [.ref (a 0), .ref y1, .ref y2, .ref (b 0)])), ((a 0), .inr (4, [.int (g 0), .int (g 1), .int (g 2), .int (g 3), .int (g 4), .int (g 5), .int (g 6), .int (g 7), .int (g 8), .int (g 9), .ref (a 1), .ref (a 2), .ref (a 3), .ref (a 4)])), ((a 3), .inr (2, [.ref (a 7), .int (nI 7)])), ((a 7), .inl (G.2.1 0, 7, .inl f2))]) [0, 1, 2, 3] rfl
  have hD9 := hD.sub (ws' := [(x, .inr (5, [.ref (a 0), .ref y1, .ref y2, .ref (b 0)])), ((a 0), .inr (4, [.int (g 0), .int (g 1), .int (g 2), .int (g 3), .int (g 4), .int (g 5), .int (g 6), .int (g 7), .int (g 8), .int (g 9), .ref (a 1), .ref (a 2), .ref (a 3), .ref (a 4)])), ((a 3), .inr (2, [.ref (a 7), .int (nI 7)])), ((a 7), .inl (G.2.1 0, 7, .inl f2))]) [0, 1, 2, 3] (by decide) rfl
  exact z_iret hx hb hr rfl hlocks () hP9 hD9 hS (Nat.le_of_ble_eq_true rfl) (Nat.le_of_ble_eq_true rfl) dX5_refused_21 rfl
set_option maxHeartbeats 1000000 in
set_option maxRecDepth 100000 in
theorem c_X5_bit (l : Launch) (G : zG) (sz : Nat) (a b : Nat → Nat) (x y1 y2 : Nat) (ad co tg b9 : Nat) (hx9 : ad < 8) (hy9 : co < 16) (ht9 : tg < 2) (hb9 : b9 < 9) : zMi l yX5_bit wsX5_bit ({ frames := 2, cells := 0, slots := 0, locals := 44 } : Room) [.ref x, .int (nI ad), .int (nI co), .int (nI tg), .int (nI b9)] G [(x, .inr (5, [.ref (a 0), .ref y1, .ref y2, .ref (b 0)]))] (fun (v : Int32) (_ : Unit) => v = nI (wd ad co tg / 2 ^ (8 - b9) % 2)) (fun _ => [(x, .inr (5, [.ref (a 0), .ref y1, .ref y2, .ref (b 0)]))]) sz 0 0 := by
  refine zMi_of (cc := cX5_bit) (maxL := 5) (ret := (some .int)) (by decide) rfl (Nat.le_of_ble_eq_true rfl) ?_
  intro p e s m args below meth c A ls hx hb hr hml hts hown hlocks hnm hK hP hD hAe hS hA hl hsz
  have hown : s.vm.findClass RX5 = some m.cls := hown
  have hP : va_P G.1 vwCl [(x, .inr (5, [.ref (a 0), .ref y1, .ref y2, .ref (b 0)]))] s.heap := hP
  have hD : va_D A [(x, .inr (5, [.ref (a 0), .ref y1, .ref y2, .ref (b 0)]))] := hD
  have hl : lv_has ls 5 [(0, .ref x), (1, .int (nI ad)), (2, .int (nI co)), (3, .int (nI tg)), (4, .int (nI b9))] := hl
  refine lv_iload_n hx hb dX5_bit_0 rfl (lv_at hl 1 rfl) ?_
  refine lv_iload_n hx hb dX5_bit_1 rfl (lv_at hl 2 rfl) ?_
  refine lv_iload_n hx hb dX5_bit_2 rfl (lv_at hl 3 rfl) ?_
  have hPc := hP.sub (ws' := []) [] rfl
  have hDc := hD.sub (ws' := []) [] (by decide) rfl
  refine z_callv (wr := [(x, .inr (5, [.ref (a 0), .ref y1, .ref y2, .ref (b 0)]))]) (va_runS (As := [.int (nI ad), .int (nI co), .int (nI tg)]) (rest := []) ⟨hx, hb, hml, hown, hts⟩ (c_X5_checkFrame l G s.heap.size (nI ad) (nI co) (nI tg) ⟨zin (l := 0) (n := 7) rfl rfl (by omega) (by omega) (by omega), zin (l := 0) (n := 15) rfl rfl (by omega) (by omega) (by omega), zin (l := 0) (n := 1) rfl rfl (by omega) (by omega) (by omega)⟩) (va_cwS 3 hts gX5_bit_X5_checkFrame rfl rfl rfl (by decide +kernel) ⟨(Nat.le_of_ble_eq_true rfl), (Nat.le_of_ble_eq_true rfl)⟩) (zS hK hPc hDc) rfl rfl hl.1 rfl (lv_room (Nat.le_of_ble_eq_true rfl)) dX5_bit_3 ⟨(Nat.le_of_ble_eq_true rfl), (Nat.le_of_ble_eq_true rfl)⟩) hP hD hS hA [] [0] rfl rfl (by decide) (by decide) (fun u_1 H locs hw_1 hP hD hS => ?_)
  have hP : va_P G.1 vwCl [(x, .inr (5, [.ref (a 0), .ref y1, .ref y2, .ref (b 0)]))] H := hP
  have hD : va_D A [(x, .inr (5, [.ref (a 0), .ref y1, .ref y2, .ref (b 0)]))] := hD
  refine lv_iload hx hb dX5_bit_6 (lv_at hl 4 rfl) ?_
  refine lv_iconst (v := 0) hx hb dX5_bit_8 (by decide) ?_
  refine lv_bipush (v := 8) hx hb dX5_bit_9 (by decide) ?_
  have hPc := hP.sub (ws' := []) [] rfl
  have hDc := hD.sub (ws' := []) [] (by decide) rfl
  refine z_calli (wr := [(x, .inr (5, [.ref (a 0), .ref y1, .ref y2, .ref (b 0)]))]) (va_runS (As := [.int (nI b9), .int 0, .int 8]) (rest := []) ⟨hx, hb, hml, hown, hts⟩ (c_X5_isWithin l G H.size (nI b9) 0 8) (va_cwS 3 hts gX5_bit_X5_isWithin rfl rfl rfl (by decide +kernel) ⟨(Nat.le_of_ble_eq_true rfl), (Nat.le_of_ble_eq_true rfl)⟩) (zS hK hPc hDc) rfl rfl hl.1 rfl (lv_room (Nat.le_of_ble_eq_true rfl)) dX5_bit_11 ⟨(Nat.le_of_ble_eq_true rfl), (Nat.le_of_ble_eq_true rfl)⟩) hP hD hS hA [] [0] rfl rfl (by decide) (by decide) (fun r_2 u_2 H locs hw_2 hP hD hS => ?_)
  subst hw_2
  have hP : va_P G.1 vwCl [(x, .inr (5, [.ref (a 0), .ref y1, .ref y2, .ref (b 0)]))] H := hP
  have hD : va_D A [(x, .inr (5, [.ref (a 0), .ref y1, .ref y2, .ref (b 0)]))] := hD
  refine z_top (if_pos (zin (l := 0) (n := 8) rfl rfl (by omega) (by omega) (by omega))) ?_
  have hPc := hP.sub (ws' := []) [] rfl
  have hDc := hD.sub (ws' := []) [] (by decide) rfl
  refine z_callv (wr := [(x, .inr (5, [.ref (a 0), .ref y1, .ref y2, .ref (b 0)]))]) (va_runS (As := [.int 1]) (rest := []) ⟨hx, hb, hml, hown, hts⟩ (c_X5_checkArgument l G H.size) (va_cwS 1 hts gX5_bit_X5_checkArgument rfl rfl rfl (by decide +kernel) ⟨(Nat.le_of_ble_eq_true rfl), (Nat.le_of_ble_eq_true rfl)⟩) (zS hK hPc hDc) rfl rfl hl.1 rfl (lv_room (Nat.le_of_ble_eq_true rfl)) dX5_bit_14 ⟨(Nat.le_of_ble_eq_true rfl), (Nat.le_of_ble_eq_true rfl)⟩) hP hD hS hA [] [0] rfl rfl (by decide) (by decide) (fun u_3 H locs hw_3 hP hD hS => ?_)
  have hP : va_P G.1 vwCl [(x, .inr (5, [.ref (a 0), .ref y1, .ref y2, .ref (b 0)]))] H := hP
  have hD : va_D A [(x, .inr (5, [.ref (a 0), .ref y1, .ref y2, .ref (b 0)]))] := hD
  refine lv_iload_n hx hb dX5_bit_17 rfl (lv_at hl 1 rfl) ?_
  refine lv_iload_n hx hb dX5_bit_18 rfl (lv_at hl 2 rfl) ?_
  refine lv_iload_n hx hb dX5_bit_19 rfl (lv_at hl 3 rfl) ?_
  have hPc := hP.sub (ws' := []) [] rfl
  have hDc := hD.sub (ws' := []) [] (by decide) rfl
  refine z_calli (wr := [(x, .inr (5, [.ref (a 0), .ref y1, .ref y2, .ref (b 0)]))]) (va_runS (As := [.int (nI ad), .int (nI co), .int (nI tg)]) (rest := []) ⟨hx, hb, hml, hown, hts⟩ (c_X5_wordOf l G H.size ad co tg hx9 hy9 ht9) (va_cwS 3 hts gX5_bit_X5_wordOf rfl rfl rfl (by decide +kernel) ⟨(Nat.le_of_ble_eq_true rfl), (Nat.le_of_ble_eq_true rfl)⟩) (zS hK hPc hDc) rfl rfl hl.1 rfl (lv_room (Nat.le_of_ble_eq_true rfl)) dX5_bit_20 ⟨(Nat.le_of_ble_eq_true rfl), (Nat.le_of_ble_eq_true rfl)⟩) hP hD hS hA [] [0] rfl rfl (by decide) (by decide) (fun r_4 u_4 H locs hw_4 hP hD hS => ?_)
  subst hw_4
  have hP : va_P G.1 vwCl [(x, .inr (5, [.ref (a 0), .ref y1, .ref y2, .ref (b 0)]))] H := hP
  have hD : va_D A [(x, .inr (5, [.ref (a 0), .ref y1, .ref y2, .ref (b 0)]))] := hD
  refine lv_iload hx hb dX5_bit_23 (lv_at hl 4 rfl) ?_
  have hPc := hP.sub (ws' := []) [] rfl
  have hDc := hD.sub (ws' := []) [] (by decide) rfl
  refine z_calli (wr := [(x, .inr (5, [.ref (a 0), .ref y1, .ref y2, .ref (b 0)]))]) (va_runS (As := [.int (nI (wd ad co tg)), .int (nI b9)]) (rest := []) ⟨hx, hb, hml, hown, hts⟩ (c_X5_bitOf l G H.size (wd ad co tg) b9 (wd_lt hx9 hy9 ht9) hb9) (va_cwS 2 hts gX5_bit_X5_bitOf rfl rfl rfl (by decide +kernel) ⟨(Nat.le_of_ble_eq_true rfl), (Nat.le_of_ble_eq_true rfl)⟩) (zS hK hPc hDc) rfl rfl hl.1 rfl (lv_room (Nat.le_of_ble_eq_true rfl)) dX5_bit_25 ⟨(Nat.le_of_ble_eq_true rfl), (Nat.le_of_ble_eq_true rfl)⟩) hP hD hS hA [] [0] rfl rfl (by decide) (by decide) (fun r_5 u_5 H locs hw_5 hP hD hS => ?_)
  subst hw_5
  have hP : va_P G.1 vwCl [(x, .inr (5, [.ref (a 0), .ref y1, .ref y2, .ref (b 0)]))] H := hP
  have hD : va_D A [(x, .inr (5, [.ref (a 0), .ref y1, .ref y2, .ref (b 0)]))] := hD
  have hP9 := hP.sub (ws' := [(x, .inr (5, [.ref (a 0), .ref y1, .ref y2, .ref (b 0)]))]) [0] rfl
  have hD9 := hD.sub (ws' := [(x, .inr (5, [.ref (a 0), .ref y1, .ref y2, .ref (b 0)]))]) [0] (by decide) rfl
  exact z_iret hx hb hr rfl hlocks () hP9 hD9 hS (Nat.le_of_ble_eq_true rfl) (Nat.le_of_ble_eq_true rfl) dX5_bit_28 rfl
end

