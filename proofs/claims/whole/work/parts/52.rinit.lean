section
/-- the reference's row of numbers at the start -/
def sR0 : zF := fun j => if j = 1 then 10 else if j = 3 ∨ j = 6 then -1 else 0
theorem sR0_of (j : Nat) : upd (upd (upd (fun _ => 0) 1 10) 3 (-1)) 6 (-1) j = sR0 j := by
  unfold sR0
  by_cases h1 : j = 1
  · subst h1; rfl
  · by_cases h3 : j = 3
    · subst h3; rfl
    · by_cases h6 : j = 6
      · subst h6; rfl
      · rw [pk_un h6, pk_un h3, pk_un h1, if_neg h1, if_neg (by omega)]
theorem zw_X6_init_ml1 : Cond.methodLink RX6 1 objectInit ∈ wsX6_init := by decide +kernel
theorem zw_X6_init_imo : Cond.instanceMethod objectInit ∈ wsX6_init := by decide +kernel
theorem zw_X6_init_coo : Cond.code objectInit ⟨#[0xb1]⟩ 1 none ∈ wsX6_init := by decide +kernel
theorem zw_X6_init_acint : Cond.arrayClass .int ∈ wsX6_init := by decide +kernel
theorem zw_X6_init_f7 : Cond.fieldLink RX6 7 "LightReceiverModel" "s" "[I" ∈ wsX6_init := by decide +kernel
theorem zi_X6_init_X6 : ∀ w ∈ wsX60, w ∈ wsX6_init := fun _ h => List.mem_cons_of_mem _ (List.mem_append_right _ h)
theorem zw_X6_init_f13 : Cond.fieldLink RX6 13 "LightReceiverModel" "aside" "[I" ∈ wsX6_init := by decide +kernel
theorem zw_X6_init_f16 : Cond.fieldLink RX6 16 "LightReceiverModel" "before" "[I" ∈ wsX6_init := by decide +kernel
theorem zw_X6_init_f19 : Cond.fieldLink RX6 19 "LightReceiverModel" "text" "[I" ∈ wsX6_init := by decide +kernel
theorem zw_X6_init_f22 : Cond.fieldLink RX6 22 "LightReceiverModel" "light" "[I" ∈ wsX6_init := by decide +kernel
theorem zw_X6_init_f25 : Cond.fieldLink RX6 25 "LightReceiverModel" "left" "[I" ∈ wsX6_init := by decide +kernel
set_option maxHeartbeats 1000000 in
set_option maxRecDepth 100000 in
theorem c_X6_init (l : Launch) (G : zG) (sz : Nat) (d0 : Nat) : zMv l yX6_init wsX6_init ({ frames := 1, cells := 6, slots := 760, locals := 12 } : Room) [.ref d0] G [(d0, .inr (6, [.null, .null, .null, .int 0, .null, .int 0, .int 0, .null, .int 0, .null, .int 0, .int 0, .int 0]))] (fun (_ : Nat → Nat) => True) (fun u => [(d0, .inr (6, [.ref (u 1), .ref (u 2), .ref (u 3), .int (nI 0), .ref (u 4), .int (nI 0), .int 0, .ref (u 5), .int (nI 0), .ref (u 6), .int (nI 0), .int (nI 0), .int 0])), ((u 1), .inl (G.2.1 0, 80, .inl sR0)), ((u 2), .inl (G.2.1 0, 80, .inl (fun _ => 0))), ((u 3), .inl (G.2.1 0, 480, .inl (fun _ => 0))), ((u 4), .inl (G.2.1 0, 60, .inl (fun _ => 0))), ((u 5), .inl (G.2.1 0, 30, .inl (fun _ => 0))), ((u 6), .inl (G.2.1 0, 30, .inl (fun _ => 0)))]) sz 6 760 := by
  refine zMv_of (cc := cX6_init) (maxL := 1) (ret := none) (by decide) rfl (Nat.le_of_ble_eq_true rfl) ?_
  intro p e s m args below meth c A ls hx hb hr hml hts hown hlocks hnm hK hP hD hAe hS hA hl hsz
  have hown : s.vm.findClass RX6 = some m.cls := hown
  have hP : va_P G.1 vwCl [(d0, .inr (6, [.null, .null, .null, .int 0, .null, .int 0, .int 0, .null, .int 0, .null, .int 0, .int 0, .int 0]))] s.heap := hP
  have hD : va_D A [(d0, .inr (6, [.null, .null, .null, .int 0, .null, .int 0, .int 0, .null, .int 0, .null, .int 0, .int 0, .int 0]))] := hD
  have hl : lv_has ls 1 [(0, .ref d0)] := hl
  refine lv_aload_n hx hb dX6_init_0 rfl (lv_at hl 0 rfl) ?_
  refine W.objInit hx hb hown (hts _ zw_X6_init_ml1) (hts _ zw_X6_init_imo) (hts _ zw_X6_init_coo) rfl (by rw [hml]; exact hl.1) rfl dX6_init_1 (Nat.le_of_ble_eq_true rfl) (Nat.le_of_ble_eq_true rfl) ?_
  refine W.eq (g2 := F0 m 4 ls []) rfl ?_
  refine lv_aload_n hx hb dX6_init_4 rfl (lv_at hl 0 rfl) ?_
  refine lv_bipush (v := 80) hx hb dX6_init_5 (by decide) ?_
  refine z_newi (N := 80) hx hb (hts _ zw_X6_init_acint) hK hP hD hS hA rfl (Nat.le_of_ble_eq_true rfl) (Nat.le_of_ble_eq_true rfl) (Nat.le_of_ble_eq_true rfl) dX6_init_7 (fun q_1 H hP hD hS => ?_)
  have hP : va_P G.1 vwCl [(d0, .inr (6, [.null, .null, .null, .int 0, .null, .int 0, .int 0, .null, .int 0, .null, .int 0, .int 0, .int 0])), (q_1, .inl (G.2.1 0, 80, .inl (fun _ => 0)))] H := hP
  have hD : va_D A [(d0, .inr (6, [.null, .null, .null, .int 0, .null, .int 0, .int 0, .null, .int 0, .null, .int 0, .int 0, .int 0])), (q_1, .inl (G.2.1 0, 80, .inl (fun _ => 0)))] := hD
  refine va_putF (D := G.1) (ci := 6) (v := .ref q_1) (ty := (.array .int)) (C := RX6) (T := TX6) (N := 13) hx hb hts zi_X6_init_X6 tyX6 tyX6_ok nmX6 hown hK.1 hP hD hS 0 rfl rfl 0 (by decide) (hts _ zw_X6_init_f7) (fun _ h9 => h9) rfl hnm rfl (by decide +kernel) rfl rfl (Nat.le_of_ble_eq_true rfl) dX6_init_9 (fun H locs hP hD hS => ?_)
  have hP : va_P G.1 vwCl [(d0, .inr (6, [.ref q_1, .null, .null, .int 0, .null, .int 0, .int 0, .null, .int 0, .null, .int 0, .int 0, .int 0])), (q_1, .inl (G.2.1 0, 80, .inl (fun _ => 0)))] H := hP
  have hD : va_D A [(d0, .inr (6, [.ref q_1, .null, .null, .int 0, .null, .int 0, .int 0, .null, .int 0, .null, .int 0, .int 0, .int 0])), (q_1, .inl (G.2.1 0, 80, .inl (fun _ => 0)))] := hD
  refine lv_aload_n hx hb dX6_init_12 rfl (lv_at hl 0 rfl) ?_
  refine lv_bipush (v := 80) hx hb dX6_init_13 (by decide) ?_
  refine z_newi (N := 80) hx hb (hts _ zw_X6_init_acint) hK hP hD hS hA rfl (Nat.le_of_ble_eq_true rfl) (Nat.le_of_ble_eq_true rfl) (Nat.le_of_ble_eq_true rfl) dX6_init_15 (fun q_2 H hP hD hS => ?_)
  have hP : va_P G.1 vwCl [(d0, .inr (6, [.ref q_1, .null, .null, .int 0, .null, .int 0, .int 0, .null, .int 0, .null, .int 0, .int 0, .int 0])), (q_1, .inl (G.2.1 0, 80, .inl (fun _ => 0))), (q_2, .inl (G.2.1 0, 80, .inl (fun _ => 0)))] H := hP
  have hD : va_D A [(d0, .inr (6, [.ref q_1, .null, .null, .int 0, .null, .int 0, .int 0, .null, .int 0, .null, .int 0, .int 0, .int 0])), (q_1, .inl (G.2.1 0, 80, .inl (fun _ => 0))), (q_2, .inl (G.2.1 0, 80, .inl (fun _ => 0)))] := hD
  refine va_putF (D := G.1) (ci := 6) (v := .ref q_2) (ty := (.array .int)) (C := RX6) (T := TX6) (N := 13) hx hb hts zi_X6_init_X6 tyX6 tyX6_ok nmX6 hown hK.1 hP hD hS 0 rfl rfl 1 (by decide) (hts _ zw_X6_init_f13) (fun _ h9 => h9) rfl hnm rfl (by decide +kernel) rfl rfl (Nat.le_of_ble_eq_true rfl) dX6_init_17 (fun H locs hP hD hS => ?_)
  have hP : va_P G.1 vwCl [(d0, .inr (6, [.ref q_1, .ref q_2, .null, .int 0, .null, .int 0, .int 0, .null, .int 0, .null, .int 0, .int 0, .int 0])), (q_1, .inl (G.2.1 0, 80, .inl (fun _ => 0))), (q_2, .inl (G.2.1 0, 80, .inl (fun _ => 0)))] H := hP
  have hD : va_D A [(d0, .inr (6, [.ref q_1, .ref q_2, .null, .int 0, .null, .int 0, .int 0, .null, .int 0, .null, .int 0, .int 0, .int 0])), (q_1, .inl (G.2.1 0, 80, .inl (fun _ => 0))), (q_2, .inl (G.2.1 0, 80, .inl (fun _ => 0)))] := hD
  refine lv_aload_n hx hb dX6_init_20 rfl (lv_at hl 0 rfl) ?_
  refine lv_sipush (v := 480) hx hb dX6_init_21 (by decide) ?_
  refine z_newi (N := 480) hx hb (hts _ zw_X6_init_acint) hK hP hD hS hA rfl (Nat.le_of_ble_eq_true rfl) (Nat.le_of_ble_eq_true rfl) (Nat.le_of_ble_eq_true rfl) dX6_init_24 (fun q_3 H hP hD hS => ?_)
  have hP : va_P G.1 vwCl [(d0, .inr (6, [.ref q_1, .ref q_2, .null, .int 0, .null, .int 0, .int 0, .null, .int 0, .null, .int 0, .int 0, .int 0])), (q_1, .inl (G.2.1 0, 80, .inl (fun _ => 0))), (q_2, .inl (G.2.1 0, 80, .inl (fun _ => 0))), (q_3, .inl (G.2.1 0, 480, .inl (fun _ => 0)))] H := hP
  have hD : va_D A [(d0, .inr (6, [.ref q_1, .ref q_2, .null, .int 0, .null, .int 0, .int 0, .null, .int 0, .null, .int 0, .int 0, .int 0])), (q_1, .inl (G.2.1 0, 80, .inl (fun _ => 0))), (q_2, .inl (G.2.1 0, 80, .inl (fun _ => 0))), (q_3, .inl (G.2.1 0, 480, .inl (fun _ => 0)))] := hD
  refine va_putF (D := G.1) (ci := 6) (v := .ref q_3) (ty := (.array .int)) (C := RX6) (T := TX6) (N := 13) hx hb hts zi_X6_init_X6 tyX6 tyX6_ok nmX6 hown hK.1 hP hD hS 0 rfl rfl 2 (by decide) (hts _ zw_X6_init_f16) (fun _ h9 => h9) rfl hnm rfl (by decide +kernel) rfl rfl (Nat.le_of_ble_eq_true rfl) dX6_init_26 (fun H locs hP hD hS => ?_)
  have hP : va_P G.1 vwCl [(d0, .inr (6, [.ref q_1, .ref q_2, .ref q_3, .int 0, .null, .int 0, .int 0, .null, .int 0, .null, .int 0, .int 0, .int 0])), (q_1, .inl (G.2.1 0, 80, .inl (fun _ => 0))), (q_2, .inl (G.2.1 0, 80, .inl (fun _ => 0))), (q_3, .inl (G.2.1 0, 480, .inl (fun _ => 0)))] H := hP
  have hD : va_D A [(d0, .inr (6, [.ref q_1, .ref q_2, .ref q_3, .int 0, .null, .int 0, .int 0, .null, .int 0, .null, .int 0, .int 0, .int 0])), (q_1, .inl (G.2.1 0, 80, .inl (fun _ => 0))), (q_2, .inl (G.2.1 0, 80, .inl (fun _ => 0))), (q_3, .inl (G.2.1 0, 480, .inl (fun _ => 0)))] := hD
  refine lv_aload_n hx hb dX6_init_29 rfl (lv_at hl 0 rfl) ?_
  refine lv_bipush (v := 60) hx hb dX6_init_30 (by decide) ?_
  refine z_newi (N := 60) hx hb (hts _ zw_X6_init_acint) hK hP hD hS hA rfl (Nat.le_of_ble_eq_true rfl) (Nat.le_of_ble_eq_true rfl) (Nat.le_of_ble_eq_true rfl) dX6_init_32 (fun q_4 H hP hD hS => ?_)
  have hP : va_P G.1 vwCl [(d0, .inr (6, [.ref q_1, .ref q_2, .ref q_3, .int 0, .null, .int 0, .int 0, .null, .int 0, .null, .int 0, .int 0, .int 0])), (q_1, .inl (G.2.1 0, 80, .inl (fun _ => 0))), (q_2, .inl (G.2.1 0, 80, .inl (fun _ => 0))), (q_3, .inl (G.2.1 0, 480, .inl (fun _ => 0))), (q_4, .inl (G.2.1 0, 60, .inl (fun _ => 0)))] H := hP
  have hD : va_D A [(d0, .inr (6, [.ref q_1, .ref q_2, .ref q_3, .int 0, .null, .int 0, .int 0, .null, .int 0, .null, .int 0, .int 0, .int 0])), (q_1, .inl (G.2.1 0, 80, .inl (fun _ => 0))), (q_2, .inl (G.2.1 0, 80, .inl (fun _ => 0))), (q_3, .inl (G.2.1 0, 480, .inl (fun _ => 0))), (q_4, .inl (G.2.1 0, 60, .inl (fun _ => 0)))] := hD
  refine va_putF (D := G.1) (ci := 6) (v := .ref q_4) (ty := (.array .int)) (C := RX6) (T := TX6) (N := 13) hx hb hts zi_X6_init_X6 tyX6 tyX6_ok nmX6 hown hK.1 hP hD hS 0 rfl rfl 4 (by decide) (hts _ zw_X6_init_f19) (fun _ h9 => h9) rfl hnm rfl (by decide +kernel) rfl rfl (Nat.le_of_ble_eq_true rfl) dX6_init_34 (fun H locs hP hD hS => ?_)
  have hP : va_P G.1 vwCl [(d0, .inr (6, [.ref q_1, .ref q_2, .ref q_3, .int 0, .ref q_4, .int 0, .int 0, .null, .int 0, .null, .int 0, .int 0, .int 0])), (q_1, .inl (G.2.1 0, 80, .inl (fun _ => 0))), (q_2, .inl (G.2.1 0, 80, .inl (fun _ => 0))), (q_3, .inl (G.2.1 0, 480, .inl (fun _ => 0))), (q_4, .inl (G.2.1 0, 60, .inl (fun _ => 0)))] H := hP
  have hD : va_D A [(d0, .inr (6, [.ref q_1, .ref q_2, .ref q_3, .int 0, .ref q_4, .int 0, .int 0, .null, .int 0, .null, .int 0, .int 0, .int 0])), (q_1, .inl (G.2.1 0, 80, .inl (fun _ => 0))), (q_2, .inl (G.2.1 0, 80, .inl (fun _ => 0))), (q_3, .inl (G.2.1 0, 480, .inl (fun _ => 0))), (q_4, .inl (G.2.1 0, 60, .inl (fun _ => 0)))] := hD
  refine lv_aload_n hx hb dX6_init_37 rfl (lv_at hl 0 rfl) ?_
  refine lv_bipush (v := 30) hx hb dX6_init_38 (by decide) ?_
  refine z_newi (N := 30) hx hb (hts _ zw_X6_init_acint) hK hP hD hS hA rfl (Nat.le_of_ble_eq_true rfl) (Nat.le_of_ble_eq_true rfl) (Nat.le_of_ble_eq_true rfl) dX6_init_40 (fun q_5 H hP hD hS => ?_)
  have hP : va_P G.1 vwCl [(d0, .inr (6, [.ref q_1, .ref q_2, .ref q_3, .int 0, .ref q_4, .int 0, .int 0, .null, .int 0, .null, .int 0, .int 0, .int 0])), (q_1, .inl (G.2.1 0, 80, .inl (fun _ => 0))), (q_2, .inl (G.2.1 0, 80, .inl (fun _ => 0))), (q_3, .inl (G.2.1 0, 480, .inl (fun _ => 0))), (q_4, .inl (G.2.1 0, 60, .inl (fun _ => 0))), (q_5, .inl (G.2.1 0, 30, .inl (fun _ => 0)))] H := hP
  have hD : va_D A [(d0, .inr (6, [.ref q_1, .ref q_2, .ref q_3, .int 0, .ref q_4, .int 0, .int 0, .null, .int 0, .null, .int 0, .int 0, .int 0])), (q_1, .inl (G.2.1 0, 80, .inl (fun _ => 0))), (q_2, .inl (G.2.1 0, 80, .inl (fun _ => 0))), (q_3, .inl (G.2.1 0, 480, .inl (fun _ => 0))), (q_4, .inl (G.2.1 0, 60, .inl (fun _ => 0))), (q_5, .inl (G.2.1 0, 30, .inl (fun _ => 0)))] := hD
  refine va_putF (D := G.1) (ci := 6) (v := .ref q_5) (ty := (.array .int)) (C := RX6) (T := TX6) (N := 13) hx hb hts zi_X6_init_X6 tyX6 tyX6_ok nmX6 hown hK.1 hP hD hS 0 rfl rfl 7 (by decide) (hts _ zw_X6_init_f22) (fun _ h9 => h9) rfl hnm rfl (by decide +kernel) rfl rfl (Nat.le_of_ble_eq_true rfl) dX6_init_42 (fun H locs hP hD hS => ?_)
  have hP : va_P G.1 vwCl [(d0, .inr (6, [.ref q_1, .ref q_2, .ref q_3, .int 0, .ref q_4, .int 0, .int 0, .ref q_5, .int 0, .null, .int 0, .int 0, .int 0])), (q_1, .inl (G.2.1 0, 80, .inl (fun _ => 0))), (q_2, .inl (G.2.1 0, 80, .inl (fun _ => 0))), (q_3, .inl (G.2.1 0, 480, .inl (fun _ => 0))), (q_4, .inl (G.2.1 0, 60, .inl (fun _ => 0))), (q_5, .inl (G.2.1 0, 30, .inl (fun _ => 0)))] H := hP
  have hD : va_D A [(d0, .inr (6, [.ref q_1, .ref q_2, .ref q_3, .int 0, .ref q_4, .int 0, .int 0, .ref q_5, .int 0, .null, .int 0, .int 0, .int 0])), (q_1, .inl (G.2.1 0, 80, .inl (fun _ => 0))), (q_2, .inl (G.2.1 0, 80, .inl (fun _ => 0))), (q_3, .inl (G.2.1 0, 480, .inl (fun _ => 0))), (q_4, .inl (G.2.1 0, 60, .inl (fun _ => 0))), (q_5, .inl (G.2.1 0, 30, .inl (fun _ => 0)))] := hD
  refine lv_aload_n hx hb dX6_init_45 rfl (lv_at hl 0 rfl) ?_
  refine lv_bipush (v := 30) hx hb dX6_init_46 (by decide) ?_
  refine z_newi (N := 30) hx hb (hts _ zw_X6_init_acint) hK hP hD hS hA rfl (Nat.le_of_ble_eq_true rfl) (Nat.le_of_ble_eq_true rfl) (Nat.le_of_ble_eq_true rfl) dX6_init_48 (fun q_6 H hP hD hS => ?_)
  have hP : va_P G.1 vwCl [(d0, .inr (6, [.ref q_1, .ref q_2, .ref q_3, .int 0, .ref q_4, .int 0, .int 0, .ref q_5, .int 0, .null, .int 0, .int 0, .int 0])), (q_1, .inl (G.2.1 0, 80, .inl (fun _ => 0))), (q_2, .inl (G.2.1 0, 80, .inl (fun _ => 0))), (q_3, .inl (G.2.1 0, 480, .inl (fun _ => 0))), (q_4, .inl (G.2.1 0, 60, .inl (fun _ => 0))), (q_5, .inl (G.2.1 0, 30, .inl (fun _ => 0))), (q_6, .inl (G.2.1 0, 30, .inl (fun _ => 0)))] H := hP
  have hD : va_D A [(d0, .inr (6, [.ref q_1, .ref q_2, .ref q_3, .int 0, .ref q_4, .int 0, .int 0, .ref q_5, .int 0, .null, .int 0, .int 0, .int 0])), (q_1, .inl (G.2.1 0, 80, .inl (fun _ => 0))), (q_2, .inl (G.2.1 0, 80, .inl (fun _ => 0))), (q_3, .inl (G.2.1 0, 480, .inl (fun _ => 0))), (q_4, .inl (G.2.1 0, 60, .inl (fun _ => 0))), (q_5, .inl (G.2.1 0, 30, .inl (fun _ => 0))), (q_6, .inl (G.2.1 0, 30, .inl (fun _ => 0)))] := hD
  refine va_putF (D := G.1) (ci := 6) (v := .ref q_6) (ty := (.array .int)) (C := RX6) (T := TX6) (N := 13) hx hb hts zi_X6_init_X6 tyX6 tyX6_ok nmX6 hown hK.1 hP hD hS 0 rfl rfl 9 (by decide) (hts _ zw_X6_init_f25) (fun _ h9 => h9) rfl hnm rfl (by decide +kernel) rfl rfl (Nat.le_of_ble_eq_true rfl) dX6_init_50 (fun H locs hP hD hS => ?_)
  have hP : va_P G.1 vwCl [(d0, .inr (6, [.ref q_1, .ref q_2, .ref q_3, .int 0, .ref q_4, .int 0, .int 0, .ref q_5, .int 0, .ref q_6, .int 0, .int 0, .int 0])), (q_1, .inl (G.2.1 0, 80, .inl (fun _ => 0))), (q_2, .inl (G.2.1 0, 80, .inl (fun _ => 0))), (q_3, .inl (G.2.1 0, 480, .inl (fun _ => 0))), (q_4, .inl (G.2.1 0, 60, .inl (fun _ => 0))), (q_5, .inl (G.2.1 0, 30, .inl (fun _ => 0))), (q_6, .inl (G.2.1 0, 30, .inl (fun _ => 0)))] H := hP
  have hD : va_D A [(d0, .inr (6, [.ref q_1, .ref q_2, .ref q_3, .int 0, .ref q_4, .int 0, .int 0, .ref q_5, .int 0, .ref q_6, .int 0, .int 0, .int 0])), (q_1, .inl (G.2.1 0, 80, .inl (fun _ => 0))), (q_2, .inl (G.2.1 0, 80, .inl (fun _ => 0))), (q_3, .inl (G.2.1 0, 480, .inl (fun _ => 0))), (q_4, .inl (G.2.1 0, 60, .inl (fun _ => 0))), (q_5, .inl (G.2.1 0, 30, .inl (fun _ => 0))), (q_6, .inl (G.2.1 0, 30, .inl (fun _ => 0)))] := hD
  refine lv_aload_n hx hb dX6_init_53 rfl (lv_at hl 0 rfl) ?_
  refine va_get (D := G.1) (ci := 6) (v := .ref q_1) (C := RX6) (T := TX6) (N := 13) hx hb hts zi_X6_init_X6 hown hK.1 hP 0 rfl rfl 0 (by decide) (hts _ zw_X6_init_f7) (fun _ h9 => h9) rfl dX6_init_54 ?_
  refine lv_iconst (v := 1) hx hb dX6_init_57 (by decide) ?_
  refine lv_bipush (v := 10) hx hb dX6_init_58 (by decide) ?_
  refine z_iast (k := 1) hx hb hK.1 hP hD hS 1 0 rfl rfl rfl (by omega) (by omega) dX6_init_60 (fun H locs hP hD hS => ?_)
  have hP : va_P G.1 vwCl [(d0, .inr (6, [.ref q_1, .ref q_2, .ref q_3, .int 0, .ref q_4, .int 0, .int 0, .ref q_5, .int 0, .ref q_6, .int 0, .int 0, .int 0])), (q_1, .inl (G.2.1 0, 80, .inl (upd (fun _ => 0) 1 10))), (q_2, .inl (G.2.1 0, 80, .inl (fun _ => 0))), (q_3, .inl (G.2.1 0, 480, .inl (fun _ => 0))), (q_4, .inl (G.2.1 0, 60, .inl (fun _ => 0))), (q_5, .inl (G.2.1 0, 30, .inl (fun _ => 0))), (q_6, .inl (G.2.1 0, 30, .inl (fun _ => 0)))] H := hP
  have hD : va_D A [(d0, .inr (6, [.ref q_1, .ref q_2, .ref q_3, .int 0, .ref q_4, .int 0, .int 0, .ref q_5, .int 0, .ref q_6, .int 0, .int 0, .int 0])), (q_1, .inl (G.2.1 0, 80, .inl (upd (fun _ => 0) 1 10))), (q_2, .inl (G.2.1 0, 80, .inl (fun _ => 0))), (q_3, .inl (G.2.1 0, 480, .inl (fun _ => 0))), (q_4, .inl (G.2.1 0, 60, .inl (fun _ => 0))), (q_5, .inl (G.2.1 0, 30, .inl (fun _ => 0))), (q_6, .inl (G.2.1 0, 30, .inl (fun _ => 0)))] := hD
  refine lv_aload_n hx hb dX6_init_61 rfl (lv_at hl 0 rfl) ?_
  refine va_get (D := G.1) (ci := 6) (v := .ref q_1) (C := RX6) (T := TX6) (N := 13) hx hb hts zi_X6_init_X6 hown hK.1 hP 0 rfl rfl 0 (by decide) (hts _ zw_X6_init_f7) (fun _ h9 => h9) rfl dX6_init_62 ?_
  refine lv_iconst (v := 3) hx hb dX6_init_65 (by decide) ?_
  refine lv_iconst (v := -1) hx hb dX6_init_66 (by decide) ?_
  refine z_iast (k := 3) hx hb hK.1 hP hD hS 1 0 rfl rfl rfl (by omega) (by omega) dX6_init_67 (fun H locs hP hD hS => ?_)
  have hP : va_P G.1 vwCl [(d0, .inr (6, [.ref q_1, .ref q_2, .ref q_3, .int 0, .ref q_4, .int 0, .int 0, .ref q_5, .int 0, .ref q_6, .int 0, .int 0, .int 0])), (q_1, .inl (G.2.1 0, 80, .inl (upd (upd (fun _ => 0) 1 10) 3 (-1)))), (q_2, .inl (G.2.1 0, 80, .inl (fun _ => 0))), (q_3, .inl (G.2.1 0, 480, .inl (fun _ => 0))), (q_4, .inl (G.2.1 0, 60, .inl (fun _ => 0))), (q_5, .inl (G.2.1 0, 30, .inl (fun _ => 0))), (q_6, .inl (G.2.1 0, 30, .inl (fun _ => 0)))] H := hP
  have hD : va_D A [(d0, .inr (6, [.ref q_1, .ref q_2, .ref q_3, .int 0, .ref q_4, .int 0, .int 0, .ref q_5, .int 0, .ref q_6, .int 0, .int 0, .int 0])), (q_1, .inl (G.2.1 0, 80, .inl (upd (upd (fun _ => 0) 1 10) 3 (-1)))), (q_2, .inl (G.2.1 0, 80, .inl (fun _ => 0))), (q_3, .inl (G.2.1 0, 480, .inl (fun _ => 0))), (q_4, .inl (G.2.1 0, 60, .inl (fun _ => 0))), (q_5, .inl (G.2.1 0, 30, .inl (fun _ => 0))), (q_6, .inl (G.2.1 0, 30, .inl (fun _ => 0)))] := hD
  refine lv_aload_n hx hb dX6_init_68 rfl (lv_at hl 0 rfl) ?_
  refine va_get (D := G.1) (ci := 6) (v := .ref q_1) (C := RX6) (T := TX6) (N := 13) hx hb hts zi_X6_init_X6 hown hK.1 hP 0 rfl rfl 0 (by decide) (hts _ zw_X6_init_f7) (fun _ h9 => h9) rfl dX6_init_69 ?_
  refine lv_bipush (v := 6) hx hb dX6_init_72 (by decide) ?_
  refine lv_iconst (v := -1) hx hb dX6_init_74 (by decide) ?_
  refine z_iast (k := 6) hx hb hK.1 hP hD hS 1 0 rfl rfl rfl (by omega) (by omega) dX6_init_75 (fun H locs hP hD hS => ?_)
  have hP : va_P G.1 vwCl [(d0, .inr (6, [.ref q_1, .ref q_2, .ref q_3, .int 0, .ref q_4, .int 0, .int 0, .ref q_5, .int 0, .ref q_6, .int 0, .int 0, .int 0])), (q_1, .inl (G.2.1 0, 80, .inl (upd (upd (upd (fun _ => 0) 1 10) 3 (-1)) 6 (-1)))), (q_2, .inl (G.2.1 0, 80, .inl (fun _ => 0))), (q_3, .inl (G.2.1 0, 480, .inl (fun _ => 0))), (q_4, .inl (G.2.1 0, 60, .inl (fun _ => 0))), (q_5, .inl (G.2.1 0, 30, .inl (fun _ => 0))), (q_6, .inl (G.2.1 0, 30, .inl (fun _ => 0)))] H := hP
  have hD : va_D A [(d0, .inr (6, [.ref q_1, .ref q_2, .ref q_3, .int 0, .ref q_4, .int 0, .int 0, .ref q_5, .int 0, .ref q_6, .int 0, .int 0, .int 0])), (q_1, .inl (G.2.1 0, 80, .inl (upd (upd (upd (fun _ => 0) 1 10) 3 (-1)) 6 (-1)))), (q_2, .inl (G.2.1 0, 80, .inl (fun _ => 0))), (q_3, .inl (G.2.1 0, 480, .inl (fun _ => 0))), (q_4, .inl (G.2.1 0, 60, .inl (fun _ => 0))), (q_5, .inl (G.2.1 0, 30, .inl (fun _ => 0))), (q_6, .inl (G.2.1 0, 30, .inl (fun _ => 0)))] := hD
  have hP : va_P G.1 vwCl [(d0, .inr (6, [.ref q_1, .ref q_2, .ref q_3, .int 0, .ref q_4, .int 0, .int 0, .ref q_5, .int 0, .ref q_6, .int 0, .int 0, .int 0])), (q_1, .inl (G.2.1 0, 80, .inl sR0)), (q_2, .inl (G.2.1 0, 80, .inl (fun _ => 0))), (q_3, .inl (G.2.1 0, 480, .inl (fun _ => 0))), (q_4, .inl (G.2.1 0, 60, .inl (fun _ => 0))), (q_5, .inl (G.2.1 0, 30, .inl (fun _ => 0))), (q_6, .inl (G.2.1 0, 30, .inl (fun _ => 0)))] H := zP_arr (g := sR0) hP 1 rfl (fun j hj => sR0_of j) rfl
  have hD : va_D A [(d0, .inr (6, [.ref q_1, .ref q_2, .ref q_3, .int 0, .ref q_4, .int 0, .int 0, .ref q_5, .int 0, .ref q_6, .int 0, .int 0, .int 0])), (q_1, .inl (G.2.1 0, 80, .inl sR0)), (q_2, .inl (G.2.1 0, 80, .inl (fun _ => 0))), (q_3, .inl (G.2.1 0, 480, .inl (fun _ => 0))), (q_4, .inl (G.2.1 0, 60, .inl (fun _ => 0))), (q_5, .inl (G.2.1 0, 30, .inl (fun _ => 0))), (q_6, .inl (G.2.1 0, 30, .inl (fun _ => 0)))] := zD_arr hD 1 rfl rfl
  have hP9 := hP.sub (ws' := [(d0, .inr (6, [.ref q_1, .ref q_2, .ref q_3, .int 0, .ref q_4, .int 0, .int 0, .ref q_5, .int 0, .ref q_6, .int 0, .int 0, .int 0])), (q_1, .inl (G.2.1 0, 80, .inl sR0)), (q_2, .inl (G.2.1 0, 80, .inl (fun _ => 0))), (q_3, .inl (G.2.1 0, 480, .inl (fun _ => 0))), (q_4, .inl (G.2.1 0, 60, .inl (fun _ => 0))), (q_5, .inl (G.2.1 0, 30, .inl (fun _ => 0))), (q_6, .inl (G.2.1 0, 30, .inl (fun _ => 0)))]) [0, 1, 2, 3, 4, 5, 6] rfl
  have hD9 := hD.sub (ws' := [(d0, .inr (6, [.ref q_1, .ref q_2, .ref q_3, .int 0, .ref q_4, .int 0, .int 0, .ref q_5, .int 0, .ref q_6, .int 0, .int 0, .int 0])), (q_1, .inl (G.2.1 0, 80, .inl sR0)), (q_2, .inl (G.2.1 0, 80, .inl (fun _ => 0))), (q_3, .inl (G.2.1 0, 480, .inl (fun _ => 0))), (q_4, .inl (G.2.1 0, 60, .inl (fun _ => 0))), (q_5, .inl (G.2.1 0, 30, .inl (fun _ => 0))), (q_6, .inl (G.2.1 0, 30, .inl (fun _ => 0)))]) [0, 1, 2, 3, 4, 5, 6] (by decide) rfl
  exact z_vret hx hb hr hlocks (ad9 d0 q_1 q_2 q_3 q_4 q_5 q_6 0 0) hP9 hD9 hS (Nat.le_of_ble_eq_true rfl) (Nat.le_of_ble_eq_true rfl) dX6_init_76 trivial
end
