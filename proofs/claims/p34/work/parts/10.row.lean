section
theorem zw_X2_at_f13 : Cond.fieldLink RX2 13 "LightReceiver$Row" "count" "I" ∈ wsX2_at := by decide +kernel
theorem zi_X2_at_X2 : ∀ w ∈ wsX20, w ∈ wsX2_at := fun _ h => List.mem_cons_of_mem _ (List.mem_append_right _ h)
theorem zw_X2_at_f7 : Cond.fieldLink RX2 7 "LightReceiver$Row" "values" "[I" ∈ wsX2_at := by decide +kernel
set_option maxHeartbeats 4000000 in
set_option maxRecDepth 100000 in
/-- Row.at(k) -/
theorem c_X2_at (l : Launch) (G : zG) (sz : Nat) (r v n k cc : Nat) (f : Nat → Int32) (hk : k < cc) (hc : cc ≤ n) (hn : n < 1000)  : zMi l yX2_at wsX2_at ({ frames := 0, cells := 0, slots := 0, locals := 0 } : Room) [.ref r, .int (nI k)] G [(r, .inr (2, [.ref v, .int (nI cc)])), (v, .inl (G.2.1 0, n, .inl f))] (fun (v : Int32) (_ : Unit) => v = f k) (fun _ => [(r, .inr (2, [.ref v, .int (nI cc)])), (v, .inl (G.2.1 0, n, .inl f))]) sz 0 0 := by
  refine zMi_of (cc := cX2_at) (maxL := 2) (ret := (some .int)) (by decide) rfl (Nat.le_of_ble_eq_true rfl) ?_
  intro p e s m args below meth c A ls hx hb hr hml hts hown hlocks hnm hK hP hD hAe hS hA hl hsz
  have hown : s.vm.findClass RX2 = some m.cls := hown
  have hP : va_P G.1 vwCl [(r, .inr (2, [.ref v, .int (nI cc)])), (v, .inl (G.2.1 0, n, .inl f))] s.heap := hP
  have hD : va_D A [(r, .inr (2, [.ref v, .int (nI cc)])), (v, .inl (G.2.1 0, n, .inl f))] := hD
  have hl : lv_has ls 2 [(0, .ref r), (1, .int (nI k))] := hl
  refine lv_iload_n hx hb dX2_at_0 rfl (lv_at hl 1 rfl) ?_
  refine lv_if_lt (tgt := 30) hx hb dX2_at_1 (by decide) (fun c_1 => ?_) (fun c_1 => ?_)
  · exact absurd c_1 (nI_pos (by omega))
  · refine lv_iload_n hx hb dX2_at_4 rfl (lv_at hl 1 rfl) ?_
    refine lv_aload_n hx hb dX2_at_5 rfl (lv_at hl 0 rfl) ?_
    refine va_get (D := G.1) (ci := 2) (v := .int (nI cc)) (C := RX2) (T := TX2) (N := 2) hx hb hts zi_X2_at_X2 hown hK.1 hP 0 rfl rfl 1 (by decide) (hts _ zw_X2_at_f13) (fun _ h9 => h9) rfl dX2_at_6 ?_
    refine lv_icmp_ge (tgt := 30) hx hb dX2_at_9 (by decide) (fun c_2 => ?_) (fun c_2 => ?_)
    · exact absurd c_2 (nI_ge hk (by omega))
    · refine lv_iload_n hx hb dX2_at_12 rfl (lv_at hl 1 rfl) ?_
      refine lv_aload_n hx hb dX2_at_13 rfl (lv_at hl 0 rfl) ?_
      refine va_get (D := G.1) (ci := 2) (v := .ref v) (C := RX2) (T := TX2) (N := 2) hx hb hts zi_X2_at_X2 hown hK.1 hP 0 rfl rfl 0 (by decide) (hts _ zw_X2_at_f7) (fun _ h9 => h9) rfl dX2_at_14 ?_
      refine va_alen hx hb hK.1 hP 1 0 rfl rfl (v := nI n) rfl dX2_at_17 ?_
      refine lv_icmp_ge (tgt := 30) hx hb dX2_at_18 (by decide) (fun c_3 => ?_) (fun c_3 => ?_)
      · exact absurd c_3 (nI_ge (a := k) (b := n) (by omega) (by omega))
      · refine lv_aload_n hx hb dX2_at_21 rfl (lv_at hl 0 rfl) ?_
        refine va_get (D := G.1) (ci := 2) (v := .ref v) (C := RX2) (T := TX2) (N := 2) hx hb hts zi_X2_at_X2 hown hK.1 hP 0 rfl rfl 0 (by decide) (hts _ zw_X2_at_f7) (fun _ h9 => h9) rfl dX2_at_22 ?_
        refine lv_iload_n hx hb dX2_at_25 rfl (lv_at hl 1 rfl) ?_
        refine z_iald (k := k) hx hb hK.1 hP 1 0 rfl rfl rfl (by omega) (by omega) dX2_at_26 ?_
        refine lv_goto (tgt := 31) hx hb dX2_at_27 (by decide) ?_
        have hP9 := hP.sub (ws' := [(r, .inr (2, [.ref v, .int (nI cc)])), (v, .inl (G.2.1 0, n, .inl f))]) [0, 1] rfl
        have hD9 := hD.sub (ws' := [(r, .inr (2, [.ref v, .int (nI cc)])), (v, .inl (G.2.1 0, n, .inl f))]) [0, 1] (by decide) rfl
        exact z_iret hx hb hr rfl hlocks () hP9 hD9 hS (Nat.le_of_ble_eq_true rfl) (Nat.le_of_ble_eq_true rfl) dX2_at_31 rfl
theorem zw_X2_set_f13 : Cond.fieldLink RX2 13 "LightReceiver$Row" "count" "I" ∈ wsX2_set := by decide +kernel
theorem zi_X2_set_X2 : ∀ w ∈ wsX20, w ∈ wsX2_set := fun _ h => List.mem_cons_of_mem _ (List.mem_append_right _ h)
theorem zw_X2_set_f7 : Cond.fieldLink RX2 7 "LightReceiver$Row" "values" "[I" ∈ wsX2_set := by decide +kernel
set_option maxHeartbeats 4000000 in
set_option maxRecDepth 100000 in
/-- Row.set(k, x) -/
theorem c_X2_set (l : Launch) (G : zG) (sz : Nat) (r v n k cc : Nat) (f : Nat → Int32) (hk : k < cc) (hc : cc ≤ n) (hn : n < 1000) (x : Int32) : zMv l yX2_set wsX2_set ({ frames := 0, cells := 0, slots := 0, locals := 0 } : Room) [.ref r, .int (nI k), .int x] G [(r, .inr (2, [.ref v, .int (nI cc)])), (v, .inl (G.2.1 0, n, .inl f))] (fun (_ : Unit) => True) (fun _ => [(r, .inr (2, [.ref v, .int (nI cc)])), (v, .inl (G.2.1 0, n, .inl (upd f k x)))]) sz 0 0 := by
  refine zMv_of (cc := cX2_set) (maxL := 3) (ret := none) (by decide) rfl (Nat.le_of_ble_eq_true rfl) ?_
  intro p e s m args below meth c A ls hx hb hr hml hts hown hlocks hnm hK hP hD hAe hS hA hl hsz
  have hown : s.vm.findClass RX2 = some m.cls := hown
  have hP : va_P G.1 vwCl [(r, .inr (2, [.ref v, .int (nI cc)])), (v, .inl (G.2.1 0, n, .inl f))] s.heap := hP
  have hD : va_D A [(r, .inr (2, [.ref v, .int (nI cc)])), (v, .inl (G.2.1 0, n, .inl f))] := hD
  have hl : lv_has ls 3 [(0, .ref r), (1, .int (nI k)), (2, .int x)] := hl
  refine lv_iload_n hx hb dX2_set_0 rfl (lv_at hl 1 rfl) ?_
  refine lv_if_lt (tgt := 28) hx hb dX2_set_1 (by decide) (fun c_1 => ?_) (fun c_1 => ?_)
  · exact absurd c_1 (nI_pos (by omega))
  · refine lv_iload_n hx hb dX2_set_4 rfl (lv_at hl 1 rfl) ?_
    refine lv_aload_n hx hb dX2_set_5 rfl (lv_at hl 0 rfl) ?_
    refine va_get (D := G.1) (ci := 2) (v := .int (nI cc)) (C := RX2) (T := TX2) (N := 2) hx hb hts zi_X2_set_X2 hown hK.1 hP 0 rfl rfl 1 (by decide) (hts _ zw_X2_set_f13) (fun _ h9 => h9) rfl dX2_set_6 ?_
    refine lv_icmp_ge (tgt := 28) hx hb dX2_set_9 (by decide) (fun c_2 => ?_) (fun c_2 => ?_)
    · exact absurd c_2 (nI_ge hk (by omega))
    · refine lv_iload_n hx hb dX2_set_12 rfl (lv_at hl 1 rfl) ?_
      refine lv_aload_n hx hb dX2_set_13 rfl (lv_at hl 0 rfl) ?_
      refine va_get (D := G.1) (ci := 2) (v := .ref v) (C := RX2) (T := TX2) (N := 2) hx hb hts zi_X2_set_X2 hown hK.1 hP 0 rfl rfl 0 (by decide) (hts _ zw_X2_set_f7) (fun _ h9 => h9) rfl dX2_set_14 ?_
      refine va_alen hx hb hK.1 hP 1 0 rfl rfl (v := nI n) rfl dX2_set_17 ?_
      refine lv_icmp_ge (tgt := 28) hx hb dX2_set_18 (by decide) (fun c_3 => ?_) (fun c_3 => ?_)
      · exact absurd c_3 (nI_ge (a := k) (b := n) (by omega) (by omega))
      · refine lv_aload_n hx hb dX2_set_21 rfl (lv_at hl 0 rfl) ?_
        refine va_get (D := G.1) (ci := 2) (v := .ref v) (C := RX2) (T := TX2) (N := 2) hx hb hts zi_X2_set_X2 hown hK.1 hP 0 rfl rfl 0 (by decide) (hts _ zw_X2_set_f7) (fun _ h9 => h9) rfl dX2_set_22 ?_
        refine lv_iload_n hx hb dX2_set_25 rfl (lv_at hl 1 rfl) ?_
        refine lv_iload_n hx hb dX2_set_26 rfl (lv_at hl 2 rfl) ?_
        refine z_iast (k := k) hx hb hK.1 hP hD hS 1 0 rfl rfl rfl (by omega) (by omega) dX2_set_27 (fun H locs hP hD hS => ?_)
        have hP : va_P G.1 vwCl [(r, .inr (2, [.ref v, .int (nI cc)])), (v, .inl (G.2.1 0, n, .inl (upd f k x)))] H := hP
        have hD : va_D A [(r, .inr (2, [.ref v, .int (nI cc)])), (v, .inl (G.2.1 0, n, .inl (upd f k x)))] := hD
        have hP9 := hP.sub (ws' := [(r, .inr (2, [.ref v, .int (nI cc)])), (v, .inl (G.2.1 0, n, .inl (upd f k x)))]) [0, 1] rfl
        have hD9 := hD.sub (ws' := [(r, .inr (2, [.ref v, .int (nI cc)])), (v, .inl (G.2.1 0, n, .inl (upd f k x)))]) [0, 1] (by decide) rfl
        exact z_vret hx hb hr hlocks () hP9 hD9 hS (Nat.le_of_ble_eq_true rfl) (Nat.le_of_ble_eq_true rfl) dX2_set_28 trivial
theorem zw_X2_increase_f13 : Cond.fieldLink RX2 13 "LightReceiver$Row" "count" "I" ∈ wsX2_increase := by decide +kernel
theorem zi_X2_increase_X2 : ∀ w ∈ wsX20, w ∈ wsX2_increase := fun _ h => List.mem_cons_of_mem _ (List.mem_append_right _ h)
theorem zw_X2_increase_f7 : Cond.fieldLink RX2 7 "LightReceiver$Row" "values" "[I" ∈ wsX2_increase := by decide +kernel
set_option maxHeartbeats 4000000 in
set_option maxRecDepth 100000 in
/-- Row.increase(k) -/
theorem c_X2_increase (l : Launch) (G : zG) (sz : Nat) (r v n k cc : Nat) (f : Nat → Int32) (hk : k < cc) (hc : cc ≤ n) (hn : n < 1000)  : zMv l yX2_increase wsX2_increase ({ frames := 0, cells := 0, slots := 0, locals := 0 } : Room) [.ref r, .int (nI k)] G [(r, .inr (2, [.ref v, .int (nI cc)])), (v, .inl (G.2.1 0, n, .inl f))] (fun (_ : Unit) => True) (fun _ => [(r, .inr (2, [.ref v, .int (nI cc)])), (v, .inl (G.2.1 0, n, .inl (upd f k (f k + 1))))]) sz 0 0 := by
  refine zMv_of (cc := cX2_increase) (maxL := 2) (ret := none) (by decide) rfl (Nat.le_of_ble_eq_true rfl) ?_
  intro p e s m args below meth c A ls hx hb hr hml hts hown hlocks hnm hK hP hD hAe hS hA hl hsz
  have hown : s.vm.findClass RX2 = some m.cls := hown
  have hP : va_P G.1 vwCl [(r, .inr (2, [.ref v, .int (nI cc)])), (v, .inl (G.2.1 0, n, .inl f))] s.heap := hP
  have hD : va_D A [(r, .inr (2, [.ref v, .int (nI cc)])), (v, .inl (G.2.1 0, n, .inl f))] := hD
  have hl : lv_has ls 2 [(0, .ref r), (1, .int (nI k))] := hl
  refine lv_iload_n hx hb dX2_increase_0 rfl (lv_at hl 1 rfl) ?_
  refine lv_if_lt (tgt := 31) hx hb dX2_increase_1 (by decide) (fun c_1 => ?_) (fun c_1 => ?_)
  · exact absurd c_1 (nI_pos (by omega))
  · refine lv_iload_n hx hb dX2_increase_4 rfl (lv_at hl 1 rfl) ?_
    refine lv_aload_n hx hb dX2_increase_5 rfl (lv_at hl 0 rfl) ?_
    refine va_get (D := G.1) (ci := 2) (v := .int (nI cc)) (C := RX2) (T := TX2) (N := 2) hx hb hts zi_X2_increase_X2 hown hK.1 hP 0 rfl rfl 1 (by decide) (hts _ zw_X2_increase_f13) (fun _ h9 => h9) rfl dX2_increase_6 ?_
    refine lv_icmp_ge (tgt := 31) hx hb dX2_increase_9 (by decide) (fun c_2 => ?_) (fun c_2 => ?_)
    · exact absurd c_2 (nI_ge hk (by omega))
    · refine lv_iload_n hx hb dX2_increase_12 rfl (lv_at hl 1 rfl) ?_
      refine lv_aload_n hx hb dX2_increase_13 rfl (lv_at hl 0 rfl) ?_
      refine va_get (D := G.1) (ci := 2) (v := .ref v) (C := RX2) (T := TX2) (N := 2) hx hb hts zi_X2_increase_X2 hown hK.1 hP 0 rfl rfl 0 (by decide) (hts _ zw_X2_increase_f7) (fun _ h9 => h9) rfl dX2_increase_14 ?_
      refine va_alen hx hb hK.1 hP 1 0 rfl rfl (v := nI n) rfl dX2_increase_17 ?_
      refine lv_icmp_ge (tgt := 31) hx hb dX2_increase_18 (by decide) (fun c_3 => ?_) (fun c_3 => ?_)
      · exact absurd c_3 (nI_ge (a := k) (b := n) (by omega) (by omega))
      · refine lv_aload_n hx hb dX2_increase_21 rfl (lv_at hl 0 rfl) ?_
        refine va_get (D := G.1) (ci := 2) (v := .ref v) (C := RX2) (T := TX2) (N := 2) hx hb hts zi_X2_increase_X2 hown hK.1 hP 0 rfl rfl 0 (by decide) (hts _ zw_X2_increase_f7) (fun _ h9 => h9) rfl dX2_increase_22 ?_
        refine lv_iload_n hx hb dX2_increase_25 rfl (lv_at hl 1 rfl) ?_
        refine lv_dup2_11 hx hb dX2_increase_26 rfl rfl ?_
        refine z_iald (k := k) hx hb hK.1 hP 1 0 rfl rfl rfl (by omega) (by omega) dX2_increase_27 ?_
        refine lv_iconst (v := 1) hx hb dX2_increase_28 (by decide) ?_
        refine lv_iadd hx hb dX2_increase_29 ?_
        refine z_iast (k := k) hx hb hK.1 hP hD hS 1 0 rfl rfl rfl (by omega) (by omega) dX2_increase_30 (fun H locs hP hD hS => ?_)
        have hP : va_P G.1 vwCl [(r, .inr (2, [.ref v, .int (nI cc)])), (v, .inl (G.2.1 0, n, .inl (upd f k ((f k) + 1))))] H := hP
        have hD : va_D A [(r, .inr (2, [.ref v, .int (nI cc)])), (v, .inl (G.2.1 0, n, .inl (upd f k ((f k) + 1))))] := hD
        have hP9 := hP.sub (ws' := [(r, .inr (2, [.ref v, .int (nI cc)])), (v, .inl (G.2.1 0, n, .inl (upd f k ((f k) + 1))))]) [0, 1] rfl
        have hD9 := hD.sub (ws' := [(r, .inr (2, [.ref v, .int (nI cc)])), (v, .inl (G.2.1 0, n, .inl (upd f k ((f k) + 1))))]) [0, 1] (by decide) rfl
        exact z_vret hx hb hr hlocks () hP9 hD9 hS (Nat.le_of_ble_eq_true rfl) (Nat.le_of_ble_eq_true rfl) dX2_increase_31 trivial
theorem zw_X2_add_f13 : Cond.fieldLink RX2 13 "LightReceiver$Row" "count" "I" ∈ wsX2_add := by decide +kernel
theorem zi_X2_add_X2 : ∀ w ∈ wsX20, w ∈ wsX2_add := fun _ h => List.mem_cons_of_mem _ (List.mem_append_right _ h)
theorem zw_X2_add_f7 : Cond.fieldLink RX2 7 "LightReceiver$Row" "values" "[I" ∈ wsX2_add := by decide +kernel
set_option maxHeartbeats 4000000 in
set_option maxRecDepth 100000 in
/-- Row.add(x) -/
theorem c_X2_add (l : Launch) (G : zG) (sz : Nat) (r v n cc : Nat) (f : Nat → Int32) (hc : cc < n) (hn : n < 1000) (x : Int32) : zMv l yX2_add wsX2_add ({ frames := 0, cells := 0, slots := 0, locals := 0 } : Room) [.ref r, .int x] G [(r, .inr (2, [.ref v, .int (nI cc)])), (v, .inl (G.2.1 0, n, .inl f))] (fun (_ : Unit) => True) (fun _ => [(r, .inr (2, [.ref v, .int (nI (cc + 1))])), (v, .inl (G.2.1 0, n, .inl (upd f cc x)))]) sz 0 0 := by
  refine zMv_of (cc := cX2_add) (maxL := 2) (ret := none) (by decide) rfl (Nat.le_of_ble_eq_true rfl) ?_
  intro p e s m args below meth c A ls hx hb hr hml hts hown hlocks hnm hK hP hD hAe hS hA hl hsz
  have hown : s.vm.findClass RX2 = some m.cls := hown
  have hP : va_P G.1 vwCl [(r, .inr (2, [.ref v, .int (nI cc)])), (v, .inl (G.2.1 0, n, .inl f))] s.heap := hP
  have hD : va_D A [(r, .inr (2, [.ref v, .int (nI cc)])), (v, .inl (G.2.1 0, n, .inl f))] := hD
  have hl : lv_has ls 2 [(0, .ref r), (1, .int x)] := hl
  refine lv_aload_n hx hb dX2_add_0 rfl (lv_at hl 0 rfl) ?_
  refine va_get (D := G.1) (ci := 2) (v := .int (nI cc)) (C := RX2) (T := TX2) (N := 2) hx hb hts zi_X2_add_X2 hown hK.1 hP 0 rfl rfl 1 (by decide) (hts _ zw_X2_add_f13) (fun _ h9 => h9) rfl dX2_add_1 ?_
  refine lv_if_lt (tgt := 39) hx hb dX2_add_4 (by decide) (fun c_1 => ?_) (fun c_1 => ?_)
  · exact absurd c_1 (nI_pos (by omega))
  · refine lv_aload_n hx hb dX2_add_7 rfl (lv_at hl 0 rfl) ?_
    refine va_get (D := G.1) (ci := 2) (v := .int (nI cc)) (C := RX2) (T := TX2) (N := 2) hx hb hts zi_X2_add_X2 hown hK.1 hP 0 rfl rfl 1 (by decide) (hts _ zw_X2_add_f13) (fun _ h9 => h9) rfl dX2_add_8 ?_
    refine lv_aload_n hx hb dX2_add_11 rfl (lv_at hl 0 rfl) ?_
    refine va_get (D := G.1) (ci := 2) (v := .ref v) (C := RX2) (T := TX2) (N := 2) hx hb hts zi_X2_add_X2 hown hK.1 hP 0 rfl rfl 0 (by decide) (hts _ zw_X2_add_f7) (fun _ h9 => h9) rfl dX2_add_12 ?_
    refine va_alen hx hb hK.1 hP 1 0 rfl rfl (v := nI n) rfl dX2_add_15 ?_
    refine lv_icmp_ge (tgt := 39) hx hb dX2_add_16 (by decide) (fun c_2 => ?_) (fun c_2 => ?_)
    · exact absurd c_2 (nI_ge hc (by omega))
    · refine lv_aload_n hx hb dX2_add_19 rfl (lv_at hl 0 rfl) ?_
      refine va_get (D := G.1) (ci := 2) (v := .ref v) (C := RX2) (T := TX2) (N := 2) hx hb hts zi_X2_add_X2 hown hK.1 hP 0 rfl rfl 0 (by decide) (hts _ zw_X2_add_f7) (fun _ h9 => h9) rfl dX2_add_20 ?_
      refine lv_aload_n hx hb dX2_add_23 rfl (lv_at hl 0 rfl) ?_
      refine va_get (D := G.1) (ci := 2) (v := .int (nI cc)) (C := RX2) (T := TX2) (N := 2) hx hb hts zi_X2_add_X2 hown hK.1 hP 0 rfl rfl 1 (by decide) (hts _ zw_X2_add_f13) (fun _ h9 => h9) rfl dX2_add_24 ?_
      refine lv_iload_n hx hb dX2_add_27 rfl (lv_at hl 1 rfl) ?_
      refine z_iast (k := cc) hx hb hK.1 hP hD hS 1 0 rfl rfl rfl (by omega) (by omega) dX2_add_28 (fun H locs hP hD hS => ?_)
      have hP : va_P G.1 vwCl [(r, .inr (2, [.ref v, .int (nI cc)])), (v, .inl (G.2.1 0, n, .inl (upd f cc x)))] H := hP
      have hD : va_D A [(r, .inr (2, [.ref v, .int (nI cc)])), (v, .inl (G.2.1 0, n, .inl (upd f cc x)))] := hD
      refine lv_aload_n hx hb dX2_add_29 rfl (lv_at hl 0 rfl) ?_
      refine lv_dup hx hb dX2_add_30 rfl ?_
      refine va_get (D := G.1) (ci := 2) (v := .int (nI cc)) (C := RX2) (T := TX2) (N := 2) hx hb hts zi_X2_add_X2 hown hK.1 hP 0 rfl rfl 1 (by decide) (hts _ zw_X2_add_f13) (fun _ h9 => h9) rfl dX2_add_31 ?_
      refine lv_iconst (v := 1) hx hb dX2_add_34 (by decide) ?_
      refine lv_iadd hx hb dX2_add_35 ?_
      refine z_top (nI_1 cc) ?_
      refine va_put (D := G.1) (ci := 2) (v := .int (nI (cc + 1))) (ty := .int) (C := RX2) (T := TX2) (N := 2) hx hb hts zi_X2_add_X2 tyX2 tyX2_ok nmX2 hown hK.1 hP hD hS 0 rfl rfl 1 (by decide) (hts _ zw_X2_add_f13) (fun _ h9 => h9) rfl (by decide +kernel) rfl rfl (Nat.le_of_ble_eq_true rfl) dX2_add_36 (fun H locs hP hD hS => ?_)
      have hP : va_P G.1 vwCl [(r, .inr (2, [.ref v, .int (nI (cc + 1))])), (v, .inl (G.2.1 0, n, .inl (upd f cc x)))] H := hP
      have hD : va_D A [(r, .inr (2, [.ref v, .int (nI (cc + 1))])), (v, .inl (G.2.1 0, n, .inl (upd f cc x)))] := hD
      have hP9 := hP.sub (ws' := [(r, .inr (2, [.ref v, .int (nI (cc + 1))])), (v, .inl (G.2.1 0, n, .inl (upd f cc x)))]) [0, 1] rfl
      have hD9 := hD.sub (ws' := [(r, .inr (2, [.ref v, .int (nI (cc + 1))])), (v, .inl (G.2.1 0, n, .inl (upd f cc x)))]) [0, 1] (by decide) rfl
      exact z_vret hx hb hr hlocks () hP9 hD9 hS (Nat.le_of_ble_eq_true rfl) (Nat.le_of_ble_eq_true rfl) dX2_add_39 trivial
theorem zw_X2_empty_f13 : Cond.fieldLink RX2 13 "LightReceiver$Row" "count" "I" ∈ wsX2_empty := by decide +kernel
theorem zi_X2_empty_X2 : ∀ w ∈ wsX20, w ∈ wsX2_empty := fun _ h => List.mem_cons_of_mem _ (List.mem_append_right _ h)
set_option maxHeartbeats 4000000 in
set_option maxRecDepth 100000 in
/-- Row.empty() -/
theorem c_X2_empty (l : Launch) (G : zG) (sz : Nat) (r v n : Nat) (co : Int32) (f : Nat → Int32) : zMv l yX2_empty wsX2_empty ({ frames := 0, cells := 0, slots := 0, locals := 0 } : Room) [.ref r] G [(r, .inr (2, [.ref v, .int co])), (v, .inl (G.2.1 0, n, .inl f))] (fun (_ : Unit) => True) (fun _ => [(r, .inr (2, [.ref v, .int (nI 0)])), (v, .inl (G.2.1 0, n, .inl f))]) sz 0 0 := by
  refine zMv_of (cc := cX2_empty) (maxL := 1) (ret := none) (by decide) rfl (Nat.le_of_ble_eq_true rfl) ?_
  intro p e s m args below meth c A ls hx hb hr hml hts hown hlocks hnm hK hP hD hAe hS hA hl hsz
  have hown : s.vm.findClass RX2 = some m.cls := hown
  have hP : va_P G.1 vwCl [(r, .inr (2, [.ref v, .int co])), (v, .inl (G.2.1 0, n, .inl f))] s.heap := hP
  have hD : va_D A [(r, .inr (2, [.ref v, .int co])), (v, .inl (G.2.1 0, n, .inl f))] := hD
  have hl : lv_has ls 1 [(0, .ref r)] := hl
  refine lv_aload_n hx hb dX2_empty_0 rfl (lv_at hl 0 rfl) ?_
  refine lv_iconst (v := 0) hx hb dX2_empty_1 (by decide) ?_
  refine va_put (D := G.1) (ci := 2) (v := .int 0) (ty := .int) (C := RX2) (T := TX2) (N := 2) hx hb hts zi_X2_empty_X2 tyX2 tyX2_ok nmX2 hown hK.1 hP hD hS 0 rfl rfl 1 (by decide) (hts _ zw_X2_empty_f13) (fun _ h9 => h9) rfl (by decide +kernel) rfl rfl (Nat.le_of_ble_eq_true rfl) dX2_empty_2 (fun H locs hP hD hS => ?_)
  have hP : va_P G.1 vwCl [(r, .inr (2, [.ref v, .int 0])), (v, .inl (G.2.1 0, n, .inl f))] H := hP
  have hD : va_D A [(r, .inr (2, [.ref v, .int 0])), (v, .inl (G.2.1 0, n, .inl f))] := hD
  have hP9 := hP.sub (ws' := [(r, .inr (2, [.ref v, .int 0])), (v, .inl (G.2.1 0, n, .inl f))]) [0, 1] rfl
  have hD9 := hD.sub (ws' := [(r, .inr (2, [.ref v, .int 0])), (v, .inl (G.2.1 0, n, .inl f))]) [0, 1] (by decide) rfl
  exact z_vret hx hb hr hlocks () hP9 hD9 hS (Nat.le_of_ble_eq_true rfl) (Nat.le_of_ble_eq_true rfl) dX2_empty_5 trivial
theorem zw_X2_become_f7 : Cond.fieldLink RX2 7 "LightReceiver$Row" "values" "[I" ∈ wsX2_become := by decide +kernel
theorem zi_X2_become_X2 : ∀ w ∈ wsX20, w ∈ wsX2_become := fun _ h => List.mem_cons_of_mem _ (List.mem_append_right _ h)
theorem zw_X2_become_ml17 : Cond.methodLink RX2 17 Lib.Math.min.name ∈ wsX2_become := by decide +kernel
theorem zw_X2_become_stmin : Cond.static Lib.Math.min.name ∈ wsX2_become := by decide +kernel
theorem zw_X2_become_inm : Cond.initialized "java/lang/Math" ∈ wsX2_become := by decide +kernel
theorem zw_X2_become_comin : Cond.code Lib.Math.min.name Lib.Math.min.code 2 (some .int) ∈ wsX2_become := by decide +kernel
theorem zw_X2_become_ml23 : Cond.methodLink RX2 23 arraycopyName ∈ wsX2_become := by decide +kernel
theorem zw_X2_become_nat : Cond.native arraycopyName ∈ wsX2_become := by decide +kernel
theorem zw_X2_become_sta : Cond.static arraycopyName ∈ wsX2_become := by decide +kernel
theorem zw_X2_become_iniS : Cond.initialized "java/lang/System" ∈ wsX2_become := by decide +kernel
theorem zw_X2_become_f13 : Cond.fieldLink RX2 13 "LightReceiver$Row" "count" "I" ∈ wsX2_become := by decide +kernel
set_option maxHeartbeats 4000000 in
set_option maxRecDepth 100000 in
/-- Row.become(other) -/
theorem c_X2_become (l : Launch) (G : zG) (sz : Nat) (r v r2 v2 n : Nat) (co c2 : Int32) (f f2 : Nat → Int32) (hn : n < 1000) : zMv l yX2_become wsX2_become ({ frames := 1, cells := 0, slots := 0, locals := 60 } : Room) [.ref r, .ref r2] G [(r, .inr (2, [.ref v, .int co])), (v, .inl (G.2.1 0, n, .inl f)), (r2, .inr (2, [.ref v2, .int c2])), (v2, .inl (G.2.1 0, n, .inl f2))] (fun (_ : Unit) => True) (fun _ => [(r, .inr (2, [.ref v, .int c2])), (v, .inl (G.2.1 0, n, .inl f2)), (r2, .inr (2, [.ref v2, .int c2])), (v2, .inl (G.2.1 0, n, .inl f2))]) sz 0 0 := by
  refine zMv_of (cc := cX2_become) (maxL := 2) (ret := none) (by decide) rfl (Nat.le_of_ble_eq_true rfl) ?_
  intro p e s m args below meth c A ls hx hb hr hml hts hown hlocks hnm hK hP hD hAe hS hA hl hsz
  have hown : s.vm.findClass RX2 = some m.cls := hown
  have hP : va_P G.1 vwCl [(r, .inr (2, [.ref v, .int co])), (v, .inl (G.2.1 0, n, .inl f)), (r2, .inr (2, [.ref v2, .int c2])), (v2, .inl (G.2.1 0, n, .inl f2))] s.heap := hP
  have hD : va_D A [(r, .inr (2, [.ref v, .int co])), (v, .inl (G.2.1 0, n, .inl f)), (r2, .inr (2, [.ref v2, .int c2])), (v2, .inl (G.2.1 0, n, .inl f2))] := hD
  have hl : lv_has ls 2 [(0, .ref r), (1, .ref r2)] := hl
  refine lv_aload_n hx hb dX2_become_0 rfl (lv_at hl 1 rfl) ?_
  refine va_get (D := G.1) (ci := 2) (v := .ref v2) (C := RX2) (T := TX2) (N := 2) hx hb hts zi_X2_become_X2 hown hK.1 hP 2 rfl rfl 0 (by decide) (hts _ zw_X2_become_f7) (fun _ h9 => h9) rfl dX2_become_1 ?_
  refine lv_iconst (v := 0) hx hb dX2_become_4 (by decide) ?_
  refine lv_aload_n hx hb dX2_become_5 rfl (lv_at hl 0 rfl) ?_
  refine va_get (D := G.1) (ci := 2) (v := .ref v) (C := RX2) (T := TX2) (N := 2) hx hb hts zi_X2_become_X2 hown hK.1 hP 0 rfl rfl 0 (by decide) (hts _ zw_X2_become_f7) (fun _ h9 => h9) rfl dX2_become_6 ?_
  refine lv_iconst (v := 0) hx hb dX2_become_9 (by decide) ?_
  refine lv_aload_n hx hb dX2_become_10 rfl (lv_at hl 1 rfl) ?_
  refine va_get (D := G.1) (ci := 2) (v := .ref v2) (C := RX2) (T := TX2) (N := 2) hx hb hts zi_X2_become_X2 hown hK.1 hP 2 rfl rfl 0 (by decide) (hts _ zw_X2_become_f7) (fun _ h9 => h9) rfl dX2_become_11 ?_
  refine va_alen hx hb hK.1 hP 3 0 rfl rfl (v := nI n) rfl dX2_become_14 ?_
  refine lv_aload_n hx hb dX2_become_15 rfl (lv_at hl 0 rfl) ?_
  refine va_get (D := G.1) (ci := 2) (v := .ref v) (C := RX2) (T := TX2) (N := 2) hx hb hts zi_X2_become_X2 hown hK.1 hP 0 rfl rfl 0 (by decide) (hts _ zw_X2_become_f7) (fun _ h9 => h9) rfl dX2_become_16 ?_
  refine va_alen hx hb hK.1 hP 1 0 rfl rfl (v := nI n) rfl dX2_become_19 ?_
  refine va_mmin (x := (nI n)) (y := (nI n)) hx hb (hml.trans hl.1.symm) hown (hts _ zw_X2_become_ml17) (hts _ zw_X2_become_stmin) (hts _ zw_X2_become_inm) (hts _ zw_X2_become_comin) (Nat.le_of_ble_eq_true rfl) (Nat.le_of_ble_eq_true rfl) (Nat.le_of_ble_eq_true rfl) (Nat.le_of_ble_eq_true rfl) dX2_become_20 ?_
  refine z_top (ite_self _) ?_
  refine va_copyi hx hb (hml.trans hl.1.symm) hown (hts _ zw_X2_become_ml23) (hts _ zw_X2_become_nat) (hts _ zw_X2_become_sta) (hts _ zw_X2_become_iniS) hK.1 hP hD hS 3 1 0 0 rfl rfl rfl rfl rfl (by decide) (by decide) (nI_pos (by omega)) (by rw [nI_clamp (by omega), sb_cl0]; omega) (by rw [nI_clamp (by omega), sb_cl0]; omega) (fun i _ => rfl) (Nat.le_of_ble_eq_true rfl) (Nat.le_of_ble_eq_true rfl) dX2_become_23 (fun H locs hP hD hS => ?_)
  have hP : va_P G.1 vwCl [(r, .inr (2, [.ref v, .int co])), (v, .inl (G.2.1 0, n, .inl f2)), (r2, .inr (2, [.ref v2, .int c2])), (v2, .inl (G.2.1 0, n, .inl f2))] H := zP_arr (g := f2) hP 1 rfl (fun j hj => by rw [nI_clamp (by omega), sb_cl0, pk_cpy_in (by omega) (by omega)]; congr 1; omega) rfl
  have hD : va_D A [(r, .inr (2, [.ref v, .int co])), (v, .inl (G.2.1 0, n, .inl f2)), (r2, .inr (2, [.ref v2, .int c2])), (v2, .inl (G.2.1 0, n, .inl f2))] := zD_arr hD 1 rfl rfl
  refine lv_aload_n hx hb dX2_become_26 rfl (lv_at hl 0 rfl) ?_
  refine lv_aload_n hx hb dX2_become_27 rfl (lv_at hl 1 rfl) ?_
  refine va_get (D := G.1) (ci := 2) (v := .int c2) (C := RX2) (T := TX2) (N := 2) hx hb hts zi_X2_become_X2 hown hK.1 hP 2 rfl rfl 1 (by decide) (hts _ zw_X2_become_f13) (fun _ h9 => h9) rfl dX2_become_28 ?_
  refine va_put (D := G.1) (ci := 2) (v := .int c2) (ty := .int) (C := RX2) (T := TX2) (N := 2) hx hb hts zi_X2_become_X2 tyX2 tyX2_ok nmX2 hown hK.1 hP hD hS 0 rfl rfl 1 (by decide) (hts _ zw_X2_become_f13) (fun _ h9 => h9) rfl (by decide +kernel) rfl rfl (Nat.le_of_ble_eq_true rfl) dX2_become_31 (fun H locs hP hD hS => ?_)
  have hP : va_P G.1 vwCl [(r, .inr (2, [.ref v, .int c2])), (v, .inl (G.2.1 0, n, .inl f2)), (r2, .inr (2, [.ref v2, .int c2])), (v2, .inl (G.2.1 0, n, .inl f2))] H := hP
  have hD : va_D A [(r, .inr (2, [.ref v, .int c2])), (v, .inl (G.2.1 0, n, .inl f2)), (r2, .inr (2, [.ref v2, .int c2])), (v2, .inl (G.2.1 0, n, .inl f2))] := hD
  have hP9 := hP.sub (ws' := [(r, .inr (2, [.ref v, .int c2])), (v, .inl (G.2.1 0, n, .inl f2)), (r2, .inr (2, [.ref v2, .int c2])), (v2, .inl (G.2.1 0, n, .inl f2))]) [0, 1, 2, 3] rfl
  have hD9 := hD.sub (ws' := [(r, .inr (2, [.ref v, .int c2])), (v, .inl (G.2.1 0, n, .inl f2)), (r2, .inr (2, [.ref v2, .int c2])), (v2, .inl (G.2.1 0, n, .inl f2))]) [0, 1, 2, 3] (by decide) rfl
  exact z_vret hx hb hr hlocks () hP9 hD9 hS (Nat.le_of_ble_eq_true rfl) (Nat.le_of_ble_eq_true rfl) dX2_become_34 trivial
end

