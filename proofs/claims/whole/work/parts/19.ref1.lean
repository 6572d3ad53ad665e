section
set_option maxHeartbeats 4000000 in
set_option maxRecDepth 100000 in
theorem c_X6_in (l : Launch) (G : zG) (sz : Nat) (x lo hi : Int32) : zMi l yX6_in wsX6_in ({ frames := 0, cells := 0, slots := 0, locals := 0 } : Room) [.int x, .int lo, .int hi] G [] (fun (v : Int32) (_ : Unit) => v = if lo ≤ x ∧ x ≤ hi then 1 else 0) (fun _ => []) sz 0 0 := by
  refine zMi_of (cc := cX6_in) (maxL := 3) (ret := (some .boolean)) (by decide) rfl (Nat.le_of_ble_eq_true rfl) ?_
  intro p e s m args below meth c A ls hx hb hr hml hts hown hlocks hnm hK hP hD hAe hS hA hl hsz
  have hown : s.vm.findClass RX6 = some m.cls := hown
  have hP : va_P G.1 vwCl [] s.heap := hP
  have hD : va_D A [] := hD
  have hl : lv_has ls 3 [(0, .int x), (1, .int lo), (2, .int hi)] := hl
  refine lv_iload_n hx hb dX6_in_0 rfl (lv_at hl 0 rfl) ?_
  refine lv_iload_n hx hb dX6_in_1 rfl (lv_at hl 1 rfl) ?_
  refine lv_icmp_lt (tgt := 14) hx hb dX6_in_2 (by decide) (fun c_1 => ?_) (fun c_1 => ?_)
  · refine lv_iconst (v := 0) hx hb dX6_in_14 (by decide) ?_
    have hP9 := hP.sub (ws' := []) [] rfl
    have hD9 := hD.sub (ws' := []) [] (by decide) rfl
    exact z_iret hx hb hr rfl hlocks () hP9 hD9 hS (Nat.le_of_ble_eq_true rfl) (Nat.le_of_ble_eq_true rfl) dX6_in_15 (by rw [if_neg (fun h => absurd c_1 (Int32.not_lt.mpr h.1))])
  · refine lv_iload_n hx hb dX6_in_5 rfl (lv_at hl 0 rfl) ?_
    refine lv_iload_n hx hb dX6_in_6 rfl (lv_at hl 2 rfl) ?_
    refine lv_icmp_gt (tgt := 14) hx hb dX6_in_7 (by decide) (fun c_2 => ?_) (fun c_2 => ?_)
    · refine lv_iconst (v := 0) hx hb dX6_in_14 (by decide) ?_
      have hP9 := hP.sub (ws' := []) [] rfl
      have hD9 := hD.sub (ws' := []) [] (by decide) rfl
      exact z_iret hx hb hr rfl hlocks () hP9 hD9 hS (Nat.le_of_ble_eq_true rfl) (Nat.le_of_ble_eq_true rfl) dX6_in_15 (by rw [if_neg (fun h => absurd c_2 (Int32.not_lt.mpr h.2))])
    · refine lv_iconst (v := 1) hx hb dX6_in_10 (by decide) ?_
      refine lv_goto (tgt := 15) hx hb dX6_in_11 (by decide) ?_
      have hP9 := hP.sub (ws' := []) [] rfl
      have hD9 := hD.sub (ws' := []) [] (by decide) rfl
      exact z_iret hx hb hr rfl hlocks () hP9 hD9 hS (Nat.le_of_ble_eq_true rfl) (Nat.le_of_ble_eq_true rfl) dX6_in_15 (by rw [if_pos ⟨Int32.not_lt.mp c_1, Int32.not_lt.mp c_2⟩])
set_option maxHeartbeats 4000000 in
set_option maxRecDepth 100000 in
theorem c_X6_areFrame (l : Launch) (G : zG) (sz : Nat) (x y z9 : Int32) : zMi l yX6_areFrame wsX6_areFrame ({ frames := 1, cells := 0, slots := 0, locals := 22 } : Room) [.int x, .int y, .int z9] G [] (fun (v : Int32) (_ : Unit) => v = if (0 ≤ x ∧ x ≤ 7) ∧ (0 ≤ y ∧ y ≤ 15) ∧ (0 ≤ z9 ∧ z9 ≤ 1) then 1 else 0) (fun _ => []) sz 0 0 := by
  refine zMi_of (cc := cX6_areFrame) (maxL := 3) (ret := (some .boolean)) (by decide) rfl (Nat.le_of_ble_eq_true rfl) ?_
  intro p e s m args below meth c A ls hx hb hr hml hts hown hlocks hnm hK hP hD hAe hS hA hl hsz
  have hown : s.vm.findClass RX6 = some m.cls := hown
  have hP : va_P G.1 vwCl [] s.heap := hP
  have hD : va_D A [] := hD
  have hl : lv_has ls 3 [(0, .int x), (1, .int y), (2, .int z9)] := hl
  refine lv_iload_n hx hb dX6_areFrame_0 rfl (lv_at hl 0 rfl) ?_
  refine lv_iconst (v := 0) hx hb dX6_areFrame_1 (by decide) ?_
  refine lv_bipush (v := 7) hx hb dX6_areFrame_2 (by decide) ?_
  have hPc := hP.sub (ws' := []) [] rfl
  have hDc := hD.sub (ws' := []) [] (by decide) rfl
  refine z_calli (wr := []) (va_runS (As := [.int x, .int 0, .int 7]) (rest := []) ⟨hx, hb, hml, hown, hts⟩ (c_X6_in l G s.heap.size x 0 7) (va_cwS 3 hts gX6_areFrame_X6_in rfl rfl rfl (by decide +kernel) ⟨(Nat.le_of_ble_eq_true rfl), (Nat.le_of_ble_eq_true rfl)⟩) (zS hK hPc hDc) rfl rfl hl.1 rfl (lv_room (Nat.le_of_ble_eq_true rfl)) dX6_areFrame_4 ⟨(Nat.le_of_ble_eq_true rfl), (Nat.le_of_ble_eq_true rfl)⟩) hP hD hS hA [] [] rfl rfl (by decide) (by decide) (fun r_1 u_1 H locs hw_1 hP hD hS => ?_)
  subst hw_1
  have hP : va_P G.1 vwCl [] H := hP
  have hD : va_D A [] := hD
  refine lv_if_eq (tgt := 33) hx hb dX6_areFrame_7 (by decide) (fun c_2 => ?_) (fun c_2 => ?_)
  · have h0 : ¬ (0 ≤ x ∧ x ≤ 7) := fun z => absurd c_2 (by rw [if_pos z]; decide)
    refine lv_iconst (v := 0) hx hb dX6_areFrame_33 (by decide) ?_
    have hP9 := hP.sub (ws' := []) [] rfl
    have hD9 := hD.sub (ws' := []) [] (by decide) rfl
    exact z_iret hx hb hr rfl hlocks () hP9 hD9 hS (Nat.le_of_ble_eq_true rfl) (Nat.le_of_ble_eq_true rfl) dX6_areFrame_34 (by rw [if_neg (fun z => h0 z.1)])
  · have h0 : 0 ≤ x ∧ x ≤ 7 := Decidable.byContradiction (fun z => c_2 (if_neg z))
    refine lv_iload_n hx hb dX6_areFrame_10 rfl (lv_at hl 1 rfl) ?_
    refine lv_iconst (v := 0) hx hb dX6_areFrame_11 (by decide) ?_
    refine lv_bipush (v := 15) hx hb dX6_areFrame_12 (by decide) ?_
    have hPc := hP.sub (ws' := []) [] rfl
    have hDc := hD.sub (ws' := []) [] (by decide) rfl
    refine z_calli (wr := []) (va_runS (As := [.int y, .int 0, .int 15]) (rest := []) ⟨hx, hb, hml, hown, hts⟩ (c_X6_in l G H.size y 0 15) (va_cwS 3 hts gX6_areFrame_X6_in rfl rfl rfl (by decide +kernel) ⟨(Nat.le_of_ble_eq_true rfl), (Nat.le_of_ble_eq_true rfl)⟩) (zS hK hPc hDc) rfl rfl hl.1 rfl (lv_room (Nat.le_of_ble_eq_true rfl)) dX6_areFrame_14 ⟨(Nat.le_of_ble_eq_true rfl), (Nat.le_of_ble_eq_true rfl)⟩) hP hD hS hA [] [] rfl rfl (by decide) (by decide) (fun r_3 u_3 H locs hw_3 hP hD hS => ?_)
    subst hw_3
    have hP : va_P G.1 vwCl [] H := hP
    have hD : va_D A [] := hD
    refine lv_if_eq (tgt := 33) hx hb dX6_areFrame_17 (by decide) (fun c_4 => ?_) (fun c_4 => ?_)
    · have h1 : ¬ (0 ≤ y ∧ y ≤ 15) := fun z => absurd c_4 (by rw [if_pos z]; decide)
      refine lv_iconst (v := 0) hx hb dX6_areFrame_33 (by decide) ?_
      have hP9 := hP.sub (ws' := []) [] rfl
      have hD9 := hD.sub (ws' := []) [] (by decide) rfl
      exact z_iret hx hb hr rfl hlocks () hP9 hD9 hS (Nat.le_of_ble_eq_true rfl) (Nat.le_of_ble_eq_true rfl) dX6_areFrame_34 (by rw [if_neg (fun z => h1 z.2.1)])
    · have h1 : 0 ≤ y ∧ y ≤ 15 := Decidable.byContradiction (fun z => c_4 (if_neg z))
      refine lv_iload_n hx hb dX6_areFrame_20 rfl (lv_at hl 2 rfl) ?_
      refine lv_iconst (v := 0) hx hb dX6_areFrame_21 (by decide) ?_
      refine lv_iconst (v := 1) hx hb dX6_areFrame_22 (by decide) ?_
      have hPc := hP.sub (ws' := []) [] rfl
      have hDc := hD.sub (ws' := []) [] (by decide) rfl
      refine z_calli (wr := []) (va_runS (As := [.int z9, .int 0, .int 1]) (rest := []) ⟨hx, hb, hml, hown, hts⟩ (c_X6_in l G H.size z9 0 1) (va_cwS 3 hts gX6_areFrame_X6_in rfl rfl rfl (by decide +kernel) ⟨(Nat.le_of_ble_eq_true rfl), (Nat.le_of_ble_eq_true rfl)⟩) (zS hK hPc hDc) rfl rfl hl.1 rfl (lv_room (Nat.le_of_ble_eq_true rfl)) dX6_areFrame_23 ⟨(Nat.le_of_ble_eq_true rfl), (Nat.le_of_ble_eq_true rfl)⟩) hP hD hS hA [] [] rfl rfl (by decide) (by decide) (fun r_5 u_5 H locs hw_5 hP hD hS => ?_)
      subst hw_5
      have hP : va_P G.1 vwCl [] H := hP
      have hD : va_D A [] := hD
      refine lv_if_eq (tgt := 33) hx hb dX6_areFrame_26 (by decide) (fun c_6 => ?_) (fun c_6 => ?_)
      · have h2 : ¬ (0 ≤ z9 ∧ z9 ≤ 1) := fun z => absurd c_6 (by rw [if_pos z]; decide)
        refine lv_iconst (v := 0) hx hb dX6_areFrame_33 (by decide) ?_
        have hP9 := hP.sub (ws' := []) [] rfl
        have hD9 := hD.sub (ws' := []) [] (by decide) rfl
        exact z_iret hx hb hr rfl hlocks () hP9 hD9 hS (Nat.le_of_ble_eq_true rfl) (Nat.le_of_ble_eq_true rfl) dX6_areFrame_34 (by rw [if_neg (fun z => h2 z.2.2)])
      · have h2 : 0 ≤ z9 ∧ z9 ≤ 1 := Decidable.byContradiction (fun z => c_6 (if_neg z))
        refine lv_iconst (v := 1) hx hb dX6_areFrame_29 (by decide) ?_
        refine lv_goto (tgt := 34) hx hb dX6_areFrame_30 (by decide) ?_
        have hP9 := hP.sub (ws' := []) [] rfl
        have hD9 := hD.sub (ws' := []) [] (by decide) rfl
        exact z_iret hx hb hr rfl hlocks () hP9 hD9 hS (Nat.le_of_ble_eq_true rfl) (Nat.le_of_ble_eq_true rfl) dX6_areFrame_34 (by rw [if_pos ⟨h0, h1, h2⟩])
set_option maxHeartbeats 4000000 in
set_option maxRecDepth 100000 in
theorem c_X6_bitOf (l : Launch) (G : zG) (sz : Nat) (ad co tg b9 : Nat) (hx9 : ad < 8) (hy9 : co < 16) (ht9 : tg < 2) (hb9 : b9 < 9) : zMi l yX6_bitOf wsX6_bitOf ({ frames := 0, cells := 0, slots := 0, locals := 0 } : Room) [.int (nI ad), .int (nI co), .int (nI tg), .int (nI b9)] G [] (fun (v : Int32) (_ : Unit) => v = nI (wd ad co tg / 2 ^ (8 - b9) % 2)) (fun _ => []) sz 0 0 := by
  refine zMi_of (cc := cX6_bitOf) (maxL := 7) (ret := (some .int)) (by decide) rfl (Nat.le_of_ble_eq_true rfl) ?_
  intro p e s m args below meth c A ls hx hb hr hml hts hown hlocks hnm hK hP hD hAe hS hA hl hsz
  have hown : s.vm.findClass RX6 = some m.cls := hown
  have hP : va_P G.1 vwCl [] s.heap := hP
  have hD : va_D A [] := hD
  have hl : lv_has ls 7 [(0, .int (nI ad)), (1, .int (nI co)), (2, .int (nI tg)), (3, .int (nI b9))] := hl
  refine lv_bipush (v := 32) hx hb dX6_bitOf_0 (by decide) ?_
  refine lv_iload_n hx hb dX6_bitOf_2 rfl (lv_at hl 0 rfl) ?_
  refine lv_imul hx hb dX6_bitOf_3 ?_
  refine lv_iconst (v := 2) hx hb dX6_bitOf_4 (by decide) ?_
  refine lv_iload_n hx hb dX6_bitOf_5 rfl (lv_at hl 1 rfl) ?_
  refine lv_imul hx hb dX6_bitOf_6 ?_
  refine lv_iadd hx hb dX6_bitOf_7 ?_
  refine lv_iload_n hx hb dX6_bitOf_8 rfl (lv_at hl 2 rfl) ?_
  refine lv_iadd hx hb dX6_bitOf_9 ?_
  refine z_top (show _ = nI (32 * ad + 2 * co + tg) from ?_) ?_
  · show nI 32 * nI ad + nI 2 * nI co + nI tg = _
    rw [pk_mul, pk_mul, nI_add, nI_add]
  refine lv_istore (lv' := [(4, .int (nI (32 * ad + 2 * co + tg))), (0, .int (nI ad)), (1, .int (nI co)), (2, .int (nI tg)), (3, .int (nI b9))]) hx hb dX6_bitOf_10 hl (by decide) rfl (fun ls hl => ?_)
  refine lv_iload_n hx hb dX6_bitOf_12 rfl (lv_at hl 4 rfl) ?_
  refine lv_bipush (v := 8) hx hb dX6_bitOf_13 (by decide) ?_
  refine lv_icmp_ge (tgt := 28) hx hb dX6_bitOf_15 (by decide) (fun c_1 => ?_) (fun c_1 => ?_)
  · obtain rfl : b9 = 8 := by have := (z_le (a := 8) rfl rfl (by omega) (by omega)).mp c_1; omega
    refine lv_iconst (v := 0) hx hb dX6_bitOf_28 (by decide) ?_
    refine lv_istore (lv' := [(5, .int 0), (4, .int (nI (32 * ad + 2 * co + tg))), (0, .int (nI ad)), (1, .int (nI co)), (2, .int (nI tg)), (3, .int (nI 8))]) hx hb dX6_bitOf_29 hl (by decide) rfl (fun ls hl => ?_)
    refine lv_iconst (v := 0) hx hb dX6_bitOf_31 (by decide) ?_
    refine lv_istore (lv' := [(6, .int 0), (5, .int 0), (4, .int (nI (32 * ad + 2 * co + tg))), (0, .int (nI ad)), (1, .int (nI co)), (2, .int (nI tg)), (3, .int (nI 8))]) hx hb dX6_bitOf_32 hl (by decide) rfl (fun ls hl => ?_)
    have loop : ∀ (n9 : Nat) (k : Nat), 8 - k < n9 → (k ≤ 8) → ∀ (H : Heap) (locs : List Loc) (ls : Array Slot), va_P G.1 vwCl [] H → va_D A [] → va_S A s.heap H locs → lv_has ls 7 [(0, .int (nI ad)), (1, .int (nI co)), (2, .int (nI tg)), (3, .int (nI 8)), (4, .int (nI (32 * ad + 2 * co + tg))), (5, .int (nI (zs (32 * ad + 2 * co + tg) k))), (6, .int (nI k))] → W p l e ({ frames := 0, cells := 0, slots := 0, locals := 0 } : Room) s m args below meth c H locs 0 0 (MQ below (zQi G (fun (v : Int32) (_ : Unit) => v = nI (wd ad co tg / 2 ^ (8 - 8) % 2)) (fun _ => []) A) args s 0 0 A) (F0 m 34 ls []) := by
      intro n9
      induction n9 with
      | zero =>
        intro k hm9
        exact absurd hm9 (Nat.not_lt_zero _)
      | succ n9 ih =>
        intro k hm9 hk9 H locs ls hP hD hS hl
        refine lv_iload hx hb dX6_bitOf_34 (lv_at hl 6 rfl) ?_
        refine lv_bipush (v := 8) hx hb dX6_bitOf_36 (by decide) ?_
        refine lv_icmp_ge (tgt := 59) hx hb dX6_bitOf_38 (by decide) (fun c_2 => ?_) (fun c_2 => ?_)
        · obtain rfl : k = 8 := by have := (z_le (a := 8) rfl rfl (by omega) (by omega)).mp c_2; omega
          refine lv_iload hx hb dX6_bitOf_59 (lv_at hl 5 rfl) ?_
          refine lv_iconst (v := 2) hx hb dX6_bitOf_61 (by decide) ?_
          refine lv_irem hx hb dX6_bitOf_62 (by decide) ?_
          have hz8 := zs_le (32 * ad + 2 * co + tg) 8
          refine z_top (pk_rem (a := zs (32 * ad + 2 * co + tg) 8) (d := 2) (by omega) (by omega) (by omega)) ?_
          have hP9 := hP.sub (ws' := []) [] rfl
          have hD9 := hD.sub (ws' := []) [] (by decide) rfl
          exact z_iret hx hb hr rfl hlocks () hP9 hD9 hS (Nat.le_of_ble_eq_true rfl) (Nat.le_of_ble_eq_true rfl) dX6_bitOf_63 (congrArg nI (zk_rpar (32 * ad + 2 * co + tg) (by omega)))
        · have hk8 : k < 8 := by have := mt (z_le (a := 8) rfl rfl (by omega) (by omega)).mpr c_2; omega
          refine lv_iload hx hb dX6_bitOf_41 (lv_at hl 5 rfl) ?_
          refine lv_iload hx hb dX6_bitOf_43 (lv_at hl 4 rfl) ?_
          refine lv_iload hx hb dX6_bitOf_45 (lv_at hl 6 rfl) ?_
          refine lv_ishr hx hb dX6_bitOf_47 ?_
          refine lv_iconst (v := 1) hx hb dX6_bitOf_48 (by decide) ?_
          refine lv_iand hx hb dX6_bitOf_49 ?_
          refine z_top (zk_rone k (by omega) (32 * ad + 2 * co + tg) (by omega)) ?_
          refine lv_iadd hx hb dX6_bitOf_50 ?_
          refine z_top (show _ = nI (zs (32 * ad + 2 * co + tg) (k + 1)) from nI_add _ _) ?_
          refine lv_istore (lv' := [(5, .int (nI (zs (32 * ad + 2 * co + tg) (k + 1)))), (0, .int (nI ad)), (1, .int (nI co)), (2, .int (nI tg)), (3, .int (nI 8)), (4, .int (nI (32 * ad + 2 * co + tg))), (6, .int (nI k))]) hx hb dX6_bitOf_51 hl (by decide) rfl (fun ls hl => ?_)
          refine lv_iinc (v := (nI (k + 1))) (lv' := [(6, .int (nI (k + 1))), (5, .int (nI (zs (32 * ad + 2 * co + tg) (k + 1)))), (0, .int (nI ad)), (1, .int (nI co)), (2, .int (nI tg)), (3, .int (nI 8)), (4, .int (nI (32 * ad + 2 * co + tg)))]) hx hb dX6_bitOf_53 hl (k := 6) rfl (nI_1 k) (by decide) rfl (fun ls hl => ?_)
          refine lv_goto (tgt := 34) hx hb dX6_bitOf_56 (by decide) ?_
          exact ih (k + 1) (by omega) (by omega) _ _ _ (hP.sub [] rfl) (hD.sub [] (by decide) rfl) hS (lv_sub hl [2, 3, 4, 5, 6, 1, 0] rfl)
    exact loop _ 0 (Nat.lt_succ_self _) (by omega) _ _ _ (hP.sub [] rfl) (hD.sub [] (by decide) rfl) hS (lv_sub hl [3, 4, 5, 6, 2, 1, 0] rfl)
  · have hb8 : b9 < 8 := by have := mt (z_le (a := 8) rfl rfl (by omega) (by omega)).mpr c_1; omega
    refine lv_iload hx hb dX6_bitOf_18 (lv_at hl 0 rfl) ?_
    refine lv_bipush (v := 7) hx hb dX6_bitOf_20 (by decide) ?_
    refine lv_iload_n hx hb dX6_bitOf_22 rfl (lv_at hl 4 rfl) ?_
    refine lv_isub hx hb dX6_bitOf_23 ?_
    refine lv_ishr hx hb dX6_bitOf_24 ?_
    refine lv_iconst (v := 1) hx hb dX6_bitOf_25 (by decide) ?_
    refine lv_iand hx hb dX6_bitOf_26 ?_
    have hP9 := hP.sub (ws' := []) [] rfl
    have hD9 := hD.sub (ws' := []) [] (by decide) rfl
    exact z_iret hx hb hr rfl hlocks () hP9 hD9 hS (Nat.le_of_ble_eq_true rfl) (Nat.le_of_ble_eq_true rfl) dX6_bitOf_27 (zk_rbit b9 hb8 (32 * ad + 2 * co + tg) (by omega))
theorem zw_X6_throwing_f28 : Cond.fieldLink RX6 28 "LightReceiverModel" "thrown" "I" ∈ wsX6_throwing := by decide +kernel
theorem zi_X6_throwing_X6 : ∀ w ∈ wsX60, w ∈ wsX6_throwing := fun _ h => List.mem_cons_of_mem _ (List.mem_append_right _ h)
set_option maxHeartbeats 4000000 in
set_option maxRecDepth 100000 in
theorem c_X6_throwing (l : Launch) (G : zG) (sz : Nat) (d : Nat → Nat) (kn ln tm kp pl : Nat) (th wr : Int32) (p9 : Int32) : zMi l yX6_throwing wsX6_throwing ({ frames := 0, cells := 0, slots := 0, locals := 0 } : Room) [.ref (d 0), .int p9] G [((d 0), .inr (6, [.ref (d 1), .ref (d 2), .ref (d 3), .int (nI kn), .ref (d 4), .int (nI ln), .int th, .ref (d 5), .int (nI tm), .ref (d 6), .int (nI kp), .int (nI pl), .int wr]))] (fun (v : Int32) (_ : Unit) => v = 0) (fun _ => [((d 0), .inr (6, [.ref (d 1), .ref (d 2), .ref (d 3), .int (nI kn), .ref (d 4), .int (nI ln), .int p9, .ref (d 5), .int (nI tm), .ref (d 6), .int (nI kp), .int (nI pl), .int wr]))]) sz 0 0 := by
  refine zMi_of (cc := cX6_throwing) (maxL := 2) (ret := (some .int)) (by decide) rfl (Nat.le_of_ble_eq_true rfl) ?_
  intro p e s m args below meth c A ls hx hb hr hml hts hown hlocks hnm hK hP hD hAe hS hA hl hsz
  have hown : s.vm.findClass RX6 = some m.cls := hown
  have hP : va_P G.1 vwCl [((d 0), .inr (6, [.ref (d 1), .ref (d 2), .ref (d 3), .int (nI kn), .ref (d 4), .int (nI ln), .int th, .ref (d 5), .int (nI tm), .ref (d 6), .int (nI kp), .int (nI pl), .int wr]))] s.heap := hP
  have hD : va_D A [((d 0), .inr (6, [.ref (d 1), .ref (d 2), .ref (d 3), .int (nI kn), .ref (d 4), .int (nI ln), .int th, .ref (d 5), .int (nI tm), .ref (d 6), .int (nI kp), .int (nI pl), .int wr]))] := hD
  have hl : lv_has ls 2 [(0, .ref (d 0)), (1, .int p9)] := hl
  refine lv_aload_n hx hb dX6_throwing_0 rfl (lv_at hl 0 rfl) ?_
  refine lv_iload_n hx hb dX6_throwing_1 rfl (lv_at hl 1 rfl) ?_
  refine va_put (D := G.1) (ci := 6) (v := .int p9) (ty := .int) (C := RX6) (T := TX6) (N := 13) hx hb hts zi_X6_throwing_X6 tyX6 tyX6_ok nmX6 hown hK.1 hP hD hS 0 rfl rfl 6 (by decide) (hts _ zw_X6_throwing_f28) (fun _ h9 => h9) rfl (by decide +kernel) rfl rfl (Nat.le_of_ble_eq_true rfl) dX6_throwing_2 (fun H locs hP hD hS => ?_)
  have hP : va_P G.1 vwCl [((d 0), .inr (6, [.ref (d 1), .ref (d 2), .ref (d 3), .int (nI kn), .ref (d 4), .int (nI ln), .int p9, .ref (d 5), .int (nI tm), .ref (d 6), .int (nI kp), .int (nI pl), .int wr]))] H := hP
  have hD : va_D A [((d 0), .inr (6, [.ref (d 1), .ref (d 2), .ref (d 3), .int (nI kn), .ref (d 4), .int (nI ln), .int p9, .ref (d 5), .int (nI tm), .ref (d 6), .int (nI kp), .int (nI pl), .int wr]))] := hD
  refine lv_iconst (v := 0) hx hb dX6_throwing_5 (by decide) ?_
  have hP9 := hP.sub (ws' := [((d 0), .inr (6, [.ref (d 1), .ref (d 2), .ref (d 3), .int (nI kn), .ref (d 4), .int (nI ln), .int p9, .ref (d 5), .int (nI tm), .ref (d 6), .int (nI kp), .int (nI pl), .int wr]))]) [0] rfl
  have hD9 := hD.sub (ws' := [((d 0), .inr (6, [.ref (d 1), .ref (d 2), .ref (d 3), .int (nI kn), .ref (d 4), .int (nI ln), .int p9, .ref (d 5), .int (nI tm), .ref (d 6), .int (nI kp), .int (nI pl), .int wr]))]) [0] (by decide) rfl
  exact z_iret hx hb hr rfl hlocks () hP9 hD9 hS (Nat.le_of_ble_eq_true rfl) (Nat.le_of_ble_eq_true rfl) dX6_throwing_6 rfl
theorem zw_X6_putAside_f13 : Cond.fieldLink RX6 13 "LightReceiverModel" "aside" "[I" ∈ wsX6_putAside := by decide +kernel
theorem zi_X6_putAside_X6 : ∀ w ∈ wsX60, w ∈ wsX6_putAside := fun _ h => List.mem_cons_of_mem _ (List.mem_append_right _ h)
theorem zw_X6_putAside_f7 : Cond.fieldLink RX6 7 "LightReceiverModel" "s" "[I" ∈ wsX6_putAside := by decide +kernel
set_option maxHeartbeats 4000000 in
set_option maxRecDepth 100000 in
theorem c_X6_putAside (l : Launch) (G : zG) (sz : Nat) (d : Nat → Nat) (kn ln tm kp pl : Nat) (th wr : Int32) (s9 a9 : zF) : zMv l yX6_putAside wsX6_putAside ({ frames := 0, cells := 0, slots := 0, locals := 0 } : Room) [.ref (d 0)] G [((d 0), .inr (6, [.ref (d 1), .ref (d 2), .ref (d 3), .int (nI kn), .ref (d 4), .int (nI ln), .int th, .ref (d 5), .int (nI tm), .ref (d 6), .int (nI kp), .int (nI pl), .int wr])), ((d 1), .inl (G.2.1 0, 80, .inl s9)), ((d 2), .inl (G.2.1 0, 80, .inl a9))] (fun (_ : Unit) => True) (fun _ => [((d 0), .inr (6, [.ref (d 1), .ref (d 2), .ref (d 3), .int (nI kn), .ref (d 4), .int (nI ln), .int th, .ref (d 5), .int (nI tm), .ref (d 6), .int (nI kp), .int (nI pl), .int wr])), ((d 1), .inl (G.2.1 0, 80, .inl s9)), ((d 2), .inl (G.2.1 0, 80, .inl s9))]) sz 0 0 := by
  refine zMv_of (cc := cX6_putAside) (maxL := 2) (ret := none) (by decide) rfl (Nat.le_of_ble_eq_true rfl) ?_
  intro p e s m args below meth c A ls hx hb hr hml hts hown hlocks hnm hK hP hD hAe hS hA hl hsz
  have hown : s.vm.findClass RX6 = some m.cls := hown
  have hP : va_P G.1 vwCl [((d 0), .inr (6, [.ref (d 1), .ref (d 2), .ref (d 3), .int (nI kn), .ref (d 4), .int (nI ln), .int th, .ref (d 5), .int (nI tm), .ref (d 6), .int (nI kp), .int (nI pl), .int wr])), ((d 1), .inl (G.2.1 0, 80, .inl s9)), ((d 2), .inl (G.2.1 0, 80, .inl a9))] s.heap := hP
  have hD : va_D A [((d 0), .inr (6, [.ref (d 1), .ref (d 2), .ref (d 3), .int (nI kn), .ref (d 4), .int (nI ln), .int th, .ref (d 5), .int (nI tm), .ref (d 6), .int (nI kp), .int (nI pl), .int wr])), ((d 1), .inl (G.2.1 0, 80, .inl s9)), ((d 2), .inl (G.2.1 0, 80, .inl a9))] := hD
  have hl : lv_has ls 2 [(0, .ref (d 0))] := hl
  refine lv_iconst (v := 0) hx hb dX6_putAside_0 (by decide) ?_
  refine lv_istore_n (lv' := [(1, .int 0), (0, .ref (d 0))]) hx hb dX6_putAside_1 rfl hl (by decide) rfl (fun ls hl => ?_)
  have loop : ∀ (n9 : Nat) (k : Nat) (u : zF), 80 - k < n9 → (k ≤ 80) → (∀ j, j < k → u j = s9 j) → ∀ (H : Heap) (locs : List Loc) (ls : Array Slot), va_P G.1 vwCl [((d 0), .inr (6, [.ref (d 1), .ref (d 2), .ref (d 3), .int (nI kn), .ref (d 4), .int (nI ln), .int th, .ref (d 5), .int (nI tm), .ref (d 6), .int (nI kp), .int (nI pl), .int wr])), ((d 1), .inl (G.2.1 0, 80, .inl s9)), ((d 2), .inl (G.2.1 0, 80, .inl u))] H → va_D A [((d 0), .inr (6, [.ref (d 1), .ref (d 2), .ref (d 3), .int (nI kn), .ref (d 4), .int (nI ln), .int th, .ref (d 5), .int (nI tm), .ref (d 6), .int (nI kp), .int (nI pl), .int wr])), ((d 1), .inl (G.2.1 0, 80, .inl s9)), ((d 2), .inl (G.2.1 0, 80, .inl u))] → va_S A s.heap H locs → lv_has ls 2 [(0, .ref (d 0)), (1, .int (nI k))] → W p l e ({ frames := 0, cells := 0, slots := 0, locals := 0 } : Room) s m args below meth c H locs 0 0 (MQ below (zQv G (fun (_ : Unit) => True) (fun _ => [((d 0), .inr (6, [.ref (d 1), .ref (d 2), .ref (d 3), .int (nI kn), .ref (d 4), .int (nI ln), .int th, .ref (d 5), .int (nI tm), .ref (d 6), .int (nI kp), .int (nI pl), .int wr])), ((d 1), .inl (G.2.1 0, 80, .inl s9)), ((d 2), .inl (G.2.1 0, 80, .inl s9))]) A) args s 0 0 A) (F0 m 2 ls []) := by
    intro n9
    induction n9 with
    | zero =>
      intro k u hm9
      exact absurd hm9 (Nat.not_lt_zero _)
    | succ n9 ih =>
      intro k u hm9 hk9 hu H locs ls hP hD hS hl
      refine lv_iload_n hx hb dX6_putAside_2 rfl (lv_at hl 1 rfl) ?_
      refine lv_bipush (v := 80) hx hb dX6_putAside_3 (by decide) ?_
      refine lv_icmp_ge (tgt := 26) hx hb dX6_putAside_5 (by decide) (fun c_1 => ?_) (fun c_1 => ?_)
      · obtain rfl : k = 80 := by have := (z_le (a := 80) rfl rfl (by omega) (by omega)).mp c_1; omega
        have hP : va_P G.1 vwCl [((d 0), .inr (6, [.ref (d 1), .ref (d 2), .ref (d 3), .int (nI kn), .ref (d 4), .int (nI ln), .int th, .ref (d 5), .int (nI tm), .ref (d 6), .int (nI kp), .int (nI pl), .int wr])), ((d 1), .inl (G.2.1 0, 80, .inl s9)), ((d 2), .inl (G.2.1 0, 80, .inl s9))] H := zP_arr (g := s9) hP 2 rfl hu rfl
        have hD : va_D A [((d 0), .inr (6, [.ref (d 1), .ref (d 2), .ref (d 3), .int (nI kn), .ref (d 4), .int (nI ln), .int th, .ref (d 5), .int (nI tm), .ref (d 6), .int (nI kp), .int (nI pl), .int wr])), ((d 1), .inl (G.2.1 0, 80, .inl s9)), ((d 2), .inl (G.2.1 0, 80, .inl s9))] := zD_arr hD 2 rfl rfl
        have hP9 := hP.sub (ws' := [((d 0), .inr (6, [.ref (d 1), .ref (d 2), .ref (d 3), .int (nI kn), .ref (d 4), .int (nI ln), .int th, .ref (d 5), .int (nI tm), .ref (d 6), .int (nI kp), .int (nI pl), .int wr])), ((d 1), .inl (G.2.1 0, 80, .inl s9)), ((d 2), .inl (G.2.1 0, 80, .inl s9))]) [0, 1, 2] rfl
        have hD9 := hD.sub (ws' := [((d 0), .inr (6, [.ref (d 1), .ref (d 2), .ref (d 3), .int (nI kn), .ref (d 4), .int (nI ln), .int th, .ref (d 5), .int (nI tm), .ref (d 6), .int (nI kp), .int (nI pl), .int wr])), ((d 1), .inl (G.2.1 0, 80, .inl s9)), ((d 2), .inl (G.2.1 0, 80, .inl s9))]) [0, 1, 2] (by decide) rfl
        exact z_vret hx hb hr hlocks () hP9 hD9 hS (Nat.le_of_ble_eq_true rfl) (Nat.le_of_ble_eq_true rfl) dX6_putAside_26 trivial
      · have hk : k < 80 := by have := mt (z_le (a := 80) rfl rfl (by omega) (by omega)).mpr c_1; omega
        refine lv_aload_n hx hb dX6_putAside_8 rfl (lv_at hl 0 rfl) ?_
        refine va_get (D := G.1) (ci := 6) (v := .ref (d 2)) (C := RX6) (T := TX6) (N := 13) hx hb hts zi_X6_putAside_X6 hown hK.1 hP 0 rfl rfl 1 (by decide) (hts _ zw_X6_putAside_f13) (fun _ h9 => h9) rfl dX6_putAside_9 ?_
        refine lv_iload_n hx hb dX6_putAside_12 rfl (lv_at hl 1 rfl) ?_
        refine lv_aload_n hx hb dX6_putAside_13 rfl (lv_at hl 0 rfl) ?_
        refine va_get (D := G.1) (ci := 6) (v := .ref (d 1)) (C := RX6) (T := TX6) (N := 13) hx hb hts zi_X6_putAside_X6 hown hK.1 hP 0 rfl rfl 0 (by decide) (hts _ zw_X6_putAside_f7) (fun _ h9 => h9) rfl dX6_putAside_14 ?_
        refine lv_iload_n hx hb dX6_putAside_17 rfl (lv_at hl 1 rfl) ?_
        refine z_iald (k := k) hx hb hK.1 hP 1 0 rfl rfl rfl (by omega) (by omega) dX6_putAside_18 ?_
        refine z_iast (k := k) hx hb hK.1 hP hD hS 2 0 rfl rfl rfl (by omega) (by omega) dX6_putAside_19 (fun H locs hP hD hS => ?_)
        have hP : va_P G.1 vwCl [((d 0), .inr (6, [.ref (d 1), .ref (d 2), .ref (d 3), .int (nI kn), .ref (d 4), .int (nI ln), .int th, .ref (d 5), .int (nI tm), .ref (d 6), .int (nI kp), .int (nI pl), .int wr])), ((d 1), .inl (G.2.1 0, 80, .inl s9)), ((d 2), .inl (G.2.1 0, 80, .inl (upd u k (s9 k))))] H := hP
        have hD : va_D A [((d 0), .inr (6, [.ref (d 1), .ref (d 2), .ref (d 3), .int (nI kn), .ref (d 4), .int (nI ln), .int th, .ref (d 5), .int (nI tm), .ref (d 6), .int (nI kp), .int (nI pl), .int wr])), ((d 1), .inl (G.2.1 0, 80, .inl s9)), ((d 2), .inl (G.2.1 0, 80, .inl (upd u k (s9 k))))] := hD
        refine lv_iinc (v := (nI (k + 1))) (lv' := [(1, .int (nI (k + 1))), (0, .ref (d 0))]) hx hb dX6_putAside_20 hl (k := 1) rfl (nI_1 k) (by decide) rfl (fun ls hl => ?_)
        refine lv_goto (tgt := 2) hx hb dX6_putAside_23 (by decide) ?_
        exact ih (k + 1) (upd u k (s9 k)) (by omega) (by omega) (fun j hj => if h : j = k then by subst h; exact pk_us else (pk_un h).trans (hu j (by omega))) _ _ _ (hP.sub [0, 1, 2] rfl) (hD.sub [0, 1, 2] (by decide) rfl) hS (lv_sub hl [1, 0] rfl)
  exact loop _ 0 a9 (Nat.lt_succ_self _) (by omega) (fun j hj => absurd hj (Nat.not_lt_zero j)) _ _ _ (hP.sub [0, 1, 2] rfl) (hD.sub [0, 1, 2] (by decide) rfl) hS (lv_sub hl [1, 0] rfl)
theorem zw_X6_putBack_f7 : Cond.fieldLink RX6 7 "LightReceiverModel" "s" "[I" ∈ wsX6_putBack := by decide +kernel
theorem zi_X6_putBack_X6 : ∀ w ∈ wsX60, w ∈ wsX6_putBack := fun _ h => List.mem_cons_of_mem _ (List.mem_append_right _ h)
theorem zw_X6_putBack_f13 : Cond.fieldLink RX6 13 "LightReceiverModel" "aside" "[I" ∈ wsX6_putBack := by decide +kernel
set_option maxHeartbeats 4000000 in
set_option maxRecDepth 100000 in
theorem c_X6_putBack (l : Launch) (G : zG) (sz : Nat) (d : Nat → Nat) (kn ln tm kp pl : Nat) (th wr : Int32) (s9 a9 : zF) : zMv l yX6_putBack wsX6_putBack ({ frames := 0, cells := 0, slots := 0, locals := 0 } : Room) [.ref (d 0)] G [((d 0), .inr (6, [.ref (d 1), .ref (d 2), .ref (d 3), .int (nI kn), .ref (d 4), .int (nI ln), .int th, .ref (d 5), .int (nI tm), .ref (d 6), .int (nI kp), .int (nI pl), .int wr])), ((d 1), .inl (G.2.1 0, 80, .inl s9)), ((d 2), .inl (G.2.1 0, 80, .inl a9))] (fun (_ : Unit) => True) (fun _ => [((d 0), .inr (6, [.ref (d 1), .ref (d 2), .ref (d 3), .int (nI kn), .ref (d 4), .int (nI ln), .int th, .ref (d 5), .int (nI tm), .ref (d 6), .int (nI kp), .int (nI pl), .int wr])), ((d 1), .inl (G.2.1 0, 80, .inl a9)), ((d 2), .inl (G.2.1 0, 80, .inl a9))]) sz 0 0 := by
  refine zMv_of (cc := cX6_putBack) (maxL := 2) (ret := none) (by decide) rfl (Nat.le_of_ble_eq_true rfl) ?_
  intro p e s m args below meth c A ls hx hb hr hml hts hown hlocks hnm hK hP hD hAe hS hA hl hsz
  have hown : s.vm.findClass RX6 = some m.cls := hown
  have hP : va_P G.1 vwCl [((d 0), .inr (6, [.ref (d 1), .ref (d 2), .ref (d 3), .int (nI kn), .ref (d 4), .int (nI ln), .int th, .ref (d 5), .int (nI tm), .ref (d 6), .int (nI kp), .int (nI pl), .int wr])), ((d 1), .inl (G.2.1 0, 80, .inl s9)), ((d 2), .inl (G.2.1 0, 80, .inl a9))] s.heap := hP
  have hD : va_D A [((d 0), .inr (6, [.ref (d 1), .ref (d 2), .ref (d 3), .int (nI kn), .ref (d 4), .int (nI ln), .int th, .ref (d 5), .int (nI tm), .ref (d 6), .int (nI kp), .int (nI pl), .int wr])), ((d 1), .inl (G.2.1 0, 80, .inl s9)), ((d 2), .inl (G.2.1 0, 80, .inl a9))] := hD
  have hl : lv_has ls 2 [(0, .ref (d 0))] := hl
  refine lv_iconst (v := 0) hx hb dX6_putBack_0 (by decide) ?_
  refine lv_istore_n (lv' := [(1, .int 0), (0, .ref (d 0))]) hx hb dX6_putBack_1 rfl hl (by decide) rfl (fun ls hl => ?_)
  have loop : ∀ (n9 : Nat) (k : Nat) (u : zF), 80 - k < n9 → (k ≤ 80) → (∀ j, j < k → u j = a9 j) → ∀ (H : Heap) (locs : List Loc) (ls : Array Slot), va_P G.1 vwCl [((d 0), .inr (6, [.ref (d 1), .ref (d 2), .ref (d 3), .int (nI kn), .ref (d 4), .int (nI ln), .int th, .ref (d 5), .int (nI tm), .ref (d 6), .int (nI kp), .int (nI pl), .int wr])), ((d 1), .inl (G.2.1 0, 80, .inl u)), ((d 2), .inl (G.2.1 0, 80, .inl a9))] H → va_D A [((d 0), .inr (6, [.ref (d 1), .ref (d 2), .ref (d 3), .int (nI kn), .ref (d 4), .int (nI ln), .int th, .ref (d 5), .int (nI tm), .ref (d 6), .int (nI kp), .int (nI pl), .int wr])), ((d 1), .inl (G.2.1 0, 80, .inl u)), ((d 2), .inl (G.2.1 0, 80, .inl a9))] → va_S A s.heap H locs → lv_has ls 2 [(0, .ref (d 0)), (1, .int (nI k))] → W p l e ({ frames := 0, cells := 0, slots := 0, locals := 0 } : Room) s m args below meth c H locs 0 0 (MQ below (zQv G (fun (_ : Unit) => True) (fun _ => [((d 0), .inr (6, [.ref (d 1), .ref (d 2), .ref (d 3), .int (nI kn), .ref (d 4), .int (nI ln), .int th, .ref (d 5), .int (nI tm), .ref (d 6), .int (nI kp), .int (nI pl), .int wr])), ((d 1), .inl (G.2.1 0, 80, .inl a9)), ((d 2), .inl (G.2.1 0, 80, .inl a9))]) A) args s 0 0 A) (F0 m 2 ls []) := by
    intro n9
    induction n9 with
    | zero =>
      intro k u hm9
      exact absurd hm9 (Nat.not_lt_zero _)
    | succ n9 ih =>
      intro k u hm9 hk9 hu H locs ls hP hD hS hl
      refine lv_iload_n hx hb dX6_putBack_2 rfl (lv_at hl 1 rfl) ?_
      refine lv_bipush (v := 80) hx hb dX6_putBack_3 (by decide) ?_
      refine lv_icmp_ge (tgt := 26) hx hb dX6_putBack_5 (by decide) (fun c_1 => ?_) (fun c_1 => ?_)
      · obtain rfl : k = 80 := by have := (z_le (a := 80) rfl rfl (by omega) (by omega)).mp c_1; omega
        have hP : va_P G.1 vwCl [((d 0), .inr (6, [.ref (d 1), .ref (d 2), .ref (d 3), .int (nI kn), .ref (d 4), .int (nI ln), .int th, .ref (d 5), .int (nI tm), .ref (d 6), .int (nI kp), .int (nI pl), .int wr])), ((d 1), .inl (G.2.1 0, 80, .inl a9)), ((d 2), .inl (G.2.1 0, 80, .inl a9))] H := zP_arr (g := a9) hP 1 rfl hu rfl
        have hD : va_D A [((d 0), .inr (6, [.ref (d 1), .ref (d 2), .ref (d 3), .int (nI kn), .ref (d 4), .int (nI ln), .int th, .ref (d 5), .int (nI tm), .ref (d 6), .int (nI kp), .int (nI pl), .int wr])), ((d 1), .inl (G.2.1 0, 80, .inl a9)), ((d 2), .inl (G.2.1 0, 80, .inl a9))] := zD_arr hD 1 rfl rfl
        have hP9 := hP.sub (ws' := [((d 0), .inr (6, [.ref (d 1), .ref (d 2), .ref (d 3), .int (nI kn), .ref (d 4), .int (nI ln), .int th, .ref (d 5), .int (nI tm), .ref (d 6), .int (nI kp), .int (nI pl), .int wr])), ((d 1), .inl (G.2.1 0, 80, .inl a9)), ((d 2), .inl (G.2.1 0, 80, .inl a9))]) [0, 1, 2] rfl
        have hD9 := hD.sub (ws' := [((d 0), .inr (6, [.ref (d 1), .ref (d 2), .ref (d 3), .int (nI kn), .ref (d 4), .int (nI ln), .int th, .ref (d 5), .int (nI tm), .ref (d 6), .int (nI kp), .int (nI pl), .int wr])), ((d 1), .inl (G.2.1 0, 80, .inl a9)), ((d 2), .inl (G.2.1 0, 80, .inl a9))]) [0, 1, 2] (by decide) rfl
        exact z_vret hx hb hr hlocks () hP9 hD9 hS (Nat.le_of_ble_eq_true rfl) (Nat.le_of_ble_eq_true rfl) dX6_putBack_26 trivial
      · have hk : k < 80 := by have := mt (z_le (a := 80) rfl rfl (by omega) (by omega)).mpr c_1; omega
        refine lv_aload_n hx hb dX6_putBack_8 rfl (lv_at hl 0 rfl) ?_
        refine va_get (D := G.1) (ci := 6) (v := .ref (d 1)) (C := RX6) (T := TX6) (N := 13) hx hb hts zi_X6_putBack_X6 hown hK.1 hP 0 rfl rfl 0 (by decide) (hts _ zw_X6_putBack_f7) (fun _ h9 => h9) rfl dX6_putBack_9 ?_
        refine lv_iload_n hx hb dX6_putBack_12 rfl (lv_at hl 1 rfl) ?_
        refine lv_aload_n hx hb dX6_putBack_13 rfl (lv_at hl 0 rfl) ?_
        refine va_get (D := G.1) (ci := 6) (v := .ref (d 2)) (C := RX6) (T := TX6) (N := 13) hx hb hts zi_X6_putBack_X6 hown hK.1 hP 0 rfl rfl 1 (by decide) (hts _ zw_X6_putBack_f13) (fun _ h9 => h9) rfl dX6_putBack_14 ?_
        refine lv_iload_n hx hb dX6_putBack_17 rfl (lv_at hl 1 rfl) ?_
        refine z_iald (k := k) hx hb hK.1 hP 2 0 rfl rfl rfl (by omega) (by omega) dX6_putBack_18 ?_
        refine z_iast (k := k) hx hb hK.1 hP hD hS 1 0 rfl rfl rfl (by omega) (by omega) dX6_putBack_19 (fun H locs hP hD hS => ?_)
        have hP : va_P G.1 vwCl [((d 0), .inr (6, [.ref (d 1), .ref (d 2), .ref (d 3), .int (nI kn), .ref (d 4), .int (nI ln), .int th, .ref (d 5), .int (nI tm), .ref (d 6), .int (nI kp), .int (nI pl), .int wr])), ((d 1), .inl (G.2.1 0, 80, .inl (upd u k (a9 k)))), ((d 2), .inl (G.2.1 0, 80, .inl a9))] H := hP
        have hD : va_D A [((d 0), .inr (6, [.ref (d 1), .ref (d 2), .ref (d 3), .int (nI kn), .ref (d 4), .int (nI ln), .int th, .ref (d 5), .int (nI tm), .ref (d 6), .int (nI kp), .int (nI pl), .int wr])), ((d 1), .inl (G.2.1 0, 80, .inl (upd u k (a9 k)))), ((d 2), .inl (G.2.1 0, 80, .inl a9))] := hD
        refine lv_iinc (v := (nI (k + 1))) (lv' := [(1, .int (nI (k + 1))), (0, .ref (d 0))]) hx hb dX6_putBack_20 hl (k := 1) rfl (nI_1 k) (by decide) rfl (fun ls hl => ?_)
        refine lv_goto (tgt := 2) hx hb dX6_putBack_23 (by decide) ?_
        exact ih (k + 1) (upd u k (a9 k)) (by omega) (by omega) (fun j hj => if h : j = k then by subst h; exact pk_us else (pk_un h).trans (hu j (by omega))) _ _ _ (hP.sub [0, 1, 2] rfl) (hD.sub [0, 1, 2] (by decide) rfl) hS (lv_sub hl [1, 0] rfl)
  exact loop _ 0 s9 (Nat.lt_succ_self _) (by omega) (fun j hj => absurd hj (Nat.not_lt_zero j)) _ _ _ (hP.sub [0, 1, 2] rfl) (hD.sub [0, 1, 2] (by decide) rfl) hS (lv_sub hl [1, 0] rfl)
theorem zw_X6_layFrame_f22 : Cond.fieldLink RX6 22 "LightReceiverModel" "light" "[I" ∈ wsX6_layFrame := by decide +kernel
theorem zi_X6_layFrame_X6 : ∀ w ∈ wsX60, w ∈ wsX6_layFrame := fun _ h => List.mem_cons_of_mem _ (List.mem_append_right _ h)
theorem zw_X6_layFrame_f43 : Cond.fieldLink RX6 43 "LightReceiverModel" "times" "I" ∈ wsX6_layFrame := by decide +kernel
set_option maxHeartbeats 4000000 in
set_option maxRecDepth 100000 in
theorem c_X6_layFrame (l : Launch) (G : zG) (sz : Nat) (d : Nat → Nat) (kn ln tm kp pl : Nat) (th wr : Int32) (l9 : zF) (ad co tg : Nat) (hx9 : ad < 8) (hy9 : co < 16) (ht9 : tg < 2) : zMv l yX6_layFrame wsX6_layFrame ({ frames := 1, cells := 0, slots := 0, locals := 26 } : Room) [.ref (d 0), .int (nI ad), .int (nI co), .int (nI tg)] G [((d 0), .inr (6, [.ref (d 1), .ref (d 2), .ref (d 3), .int (nI kn), .ref (d 4), .int (nI ln), .int th, .ref (d 5), .int (nI tm), .ref (d 6), .int (nI kp), .int (nI pl), .int wr])), ((d 5), .inl (G.2.1 0, 30, .inl l9))] (fun (u : zF) => ∀ j, j < 21 → u j = frS (wd ad co tg) j) (fun u => [((d 0), .inr (6, [.ref (d 1), .ref (d 2), .ref (d 3), .int (nI kn), .ref (d 4), .int (nI ln), .int th, .ref (d 5), .int (nI 21), .ref (d 6), .int (nI kp), .int (nI pl), .int wr])), ((d 5), .inl (G.2.1 0, 30, .inl u))]) sz 0 0 := by
  refine zMv_of (cc := cX6_layFrame) (maxL := 5) (ret := none) (by decide) rfl (Nat.le_of_ble_eq_true rfl) ?_
  intro p e s m args below meth c A ls hx hb hr hml hts hown hlocks hnm hK hP hD hAe hS hA hl hsz
  have hown : s.vm.findClass RX6 = some m.cls := hown
  have hP : va_P G.1 vwCl [((d 0), .inr (6, [.ref (d 1), .ref (d 2), .ref (d 3), .int (nI kn), .ref (d 4), .int (nI ln), .int th, .ref (d 5), .int (nI tm), .ref (d 6), .int (nI kp), .int (nI pl), .int wr])), ((d 5), .inl (G.2.1 0, 30, .inl l9))] s.heap := hP
  have hD : va_D A [((d 0), .inr (6, [.ref (d 1), .ref (d 2), .ref (d 3), .int (nI kn), .ref (d 4), .int (nI ln), .int th, .ref (d 5), .int (nI tm), .ref (d 6), .int (nI kp), .int (nI pl), .int wr])), ((d 5), .inl (G.2.1 0, 30, .inl l9))] := hD
  have hl : lv_has ls 5 [(0, .ref (d 0)), (1, .int (nI ad)), (2, .int (nI co)), (3, .int (nI tg))] := hl
  refine lv_aload_n hx hb dX6_layFrame_0 rfl (lv_at hl 0 rfl) ?_
  refine va_get (D := G.1) (ci := 6) (v := .ref (d 5)) (C := RX6) (T := TX6) (N := 13) hx hb hts zi_X6_layFrame_X6 hown hK.1 hP 0 rfl rfl 7 (by decide) (hts _ zw_X6_layFrame_f22) (fun _ h9 => h9) rfl dX6_layFrame_1 ?_
  refine lv_iconst (v := 0) hx hb dX6_layFrame_4 (by decide) ?_
  refine lv_bipush (v := 16) hx hb dX6_layFrame_5 (by decide) ?_
  refine z_iast (k := 0) hx hb hK.1 hP hD hS 1 0 rfl rfl rfl (by omega) (by omega) dX6_layFrame_7 (fun H locs hP hD hS => ?_)
  have hP : va_P G.1 vwCl [((d 0), .inr (6, [.ref (d 1), .ref (d 2), .ref (d 3), .int (nI kn), .ref (d 4), .int (nI ln), .int th, .ref (d 5), .int (nI tm), .ref (d 6), .int (nI kp), .int (nI pl), .int wr])), ((d 5), .inl (G.2.1 0, 30, .inl (upd l9 0 16)))] H := hP
  have hD : va_D A [((d 0), .inr (6, [.ref (d 1), .ref (d 2), .ref (d 3), .int (nI kn), .ref (d 4), .int (nI ln), .int th, .ref (d 5), .int (nI tm), .ref (d 6), .int (nI kp), .int (nI pl), .int wr])), ((d 5), .inl (G.2.1 0, 30, .inl (upd l9 0 16)))] := hD
  refine lv_aload_n hx hb dX6_layFrame_8 rfl (lv_at hl 0 rfl) ?_
  refine va_get (D := G.1) (ci := 6) (v := .ref (d 5)) (C := RX6) (T := TX6) (N := 13) hx hb hts zi_X6_layFrame_X6 hown hK.1 hP 0 rfl rfl 7 (by decide) (hts _ zw_X6_layFrame_f22) (fun _ h9 => h9) rfl dX6_layFrame_9 ?_
  refine lv_iconst (v := 1) hx hb dX6_layFrame_12 (by decide) ?_
  refine lv_bipush (v := 8) hx hb dX6_layFrame_13 (by decide) ?_
  refine z_iast (k := 1) hx hb hK.1 hP hD hS 1 0 rfl rfl rfl (by omega) (by omega) dX6_layFrame_15 (fun H locs hP hD hS => ?_)
  have hP : va_P G.1 vwCl [((d 0), .inr (6, [.ref (d 1), .ref (d 2), .ref (d 3), .int (nI kn), .ref (d 4), .int (nI ln), .int th, .ref (d 5), .int (nI tm), .ref (d 6), .int (nI kp), .int (nI pl), .int wr])), ((d 5), .inl (G.2.1 0, 30, .inl (upd (upd l9 0 16) 1 8)))] H := hP
  have hD : va_D A [((d 0), .inr (6, [.ref (d 1), .ref (d 2), .ref (d 3), .int (nI kn), .ref (d 4), .int (nI ln), .int th, .ref (d 5), .int (nI tm), .ref (d 6), .int (nI kp), .int (nI pl), .int wr])), ((d 5), .inl (G.2.1 0, 30, .inl (upd (upd l9 0 16) 1 8)))] := hD
  refine lv_iconst (v := 0) hx hb dX6_layFrame_16 (by decide) ?_
  refine lv_istore (lv' := [(4, .int 0), (0, .ref (d 0)), (1, .int (nI ad)), (2, .int (nI co)), (3, .int (nI tg))]) hx hb dX6_layFrame_17 hl (by decide) rfl (fun ls hl => ?_)
  have loop : ∀ (n9 : Nat) (k : Nat) (cc : Nat) (u : zF), 9 - k < n9 → (k ≤ 9) → (cc = 2 + 2 * k) → (∀ j, j < cc → u j = frS (wd ad co tg) j) → ∀ (H : Heap) (locs : List Loc) (ls : Array Slot), va_P G.1 vwCl [((d 0), .inr (6, [.ref (d 1), .ref (d 2), .ref (d 3), .int (nI kn), .ref (d 4), .int (nI ln), .int th, .ref (d 5), .int (nI tm), .ref (d 6), .int (nI kp), .int (nI pl), .int wr])), ((d 5), .inl (G.2.1 0, 30, .inl u))] H → va_D A [((d 0), .inr (6, [.ref (d 1), .ref (d 2), .ref (d 3), .int (nI kn), .ref (d 4), .int (nI ln), .int th, .ref (d 5), .int (nI tm), .ref (d 6), .int (nI kp), .int (nI pl), .int wr])), ((d 5), .inl (G.2.1 0, 30, .inl u))] → va_S A s.heap H locs → lv_has ls 5 [(0, .ref (d 0)), (1, .int (nI ad)), (2, .int (nI co)), (3, .int (nI tg)), (4, .int (nI k))] → W p l e ({ frames := 1, cells := 0, slots := 0, locals := 26 } : Room) s m args below meth c H locs 0 0 (MQ below (zQv G (fun (u : zF) => ∀ j, j < 21 → u j = frS (wd ad co tg) j) (fun u => [((d 0), .inr (6, [.ref (d 1), .ref (d 2), .ref (d 3), .int (nI kn), .ref (d 4), .int (nI ln), .int th, .ref (d 5), .int (nI 21), .ref (d 6), .int (nI kp), .int (nI pl), .int wr])), ((d 5), .inl (G.2.1 0, 30, .inl u))]) A) args s 0 0 A) (F0 m 19 ls []) := by
    intro n9
    induction n9 with
    | zero =>
      intro k cc u hm9
      exact absurd hm9 (Nat.not_lt_zero _)
    | succ n9 ih =>
      intro k cc u hm9 hk9 hcc hu H locs ls hP hD hS hl
      refine lv_iload hx hb dX6_layFrame_19 (lv_at hl 4 rfl) ?_
      refine lv_bipush (v := 9) hx hb dX6_layFrame_21 (by decide) ?_
      refine lv_icmp_ge (tgt := 73) hx hb dX6_layFrame_23 (by decide) (fun c_1 => ?_) (fun c_1 => ?_)
      · obtain rfl : k = 9 := by have := (z_le (a := 9) rfl rfl (by omega) (by omega)).mp c_1; omega
        obtain rfl : cc = 20 := by omega
        refine lv_aload_n hx hb dX6_layFrame_73 rfl (lv_at hl 0 rfl) ?_
        refine va_get (D := G.1) (ci := 6) (v := .ref (d 5)) (C := RX6) (T := TX6) (N := 13) hx hb hts zi_X6_layFrame_X6 hown hK.1 hP 0 rfl rfl 7 (by decide) (hts _ zw_X6_layFrame_f22) (fun _ h9 => h9) rfl dX6_layFrame_74 ?_
        refine lv_bipush (v := 20) hx hb dX6_layFrame_77 (by decide) ?_
        refine lv_iconst (v := 4) hx hb dX6_layFrame_79 (by decide) ?_
        refine z_iast (k := 20) hx hb hK.1 hP hD hS 1 0 rfl rfl rfl (by omega) (by omega) dX6_layFrame_80 (fun H locs hP hD hS => ?_)
        have hP : va_P G.1 vwCl [((d 0), .inr (6, [.ref (d 1), .ref (d 2), .ref (d 3), .int (nI kn), .ref (d 4), .int (nI ln), .int th, .ref (d 5), .int (nI tm), .ref (d 6), .int (nI kp), .int (nI pl), .int wr])), ((d 5), .inl (G.2.1 0, 30, .inl (upd u 20 4)))] H := hP
        have hD : va_D A [((d 0), .inr (6, [.ref (d 1), .ref (d 2), .ref (d 3), .int (nI kn), .ref (d 4), .int (nI ln), .int th, .ref (d 5), .int (nI tm), .ref (d 6), .int (nI kp), .int (nI pl), .int wr])), ((d 5), .inl (G.2.1 0, 30, .inl (upd u 20 4)))] := hD
        refine lv_aload_n hx hb dX6_layFrame_81 rfl (lv_at hl 0 rfl) ?_
        refine lv_bipush (v := 21) hx hb dX6_layFrame_82 (by decide) ?_
        refine va_put (D := G.1) (ci := 6) (v := .int 21) (ty := .int) (C := RX6) (T := TX6) (N := 13) hx hb hts zi_X6_layFrame_X6 tyX6 tyX6_ok nmX6 hown hK.1 hP hD hS 0 rfl rfl 8 (by decide) (hts _ zw_X6_layFrame_f43) (fun _ h9 => h9) rfl (by decide +kernel) rfl rfl (Nat.le_of_ble_eq_true rfl) dX6_layFrame_84 (fun H locs hP hD hS => ?_)
        have hP : va_P G.1 vwCl [((d 0), .inr (6, [.ref (d 1), .ref (d 2), .ref (d 3), .int (nI kn), .ref (d 4), .int (nI ln), .int th, .ref (d 5), .int 21, .ref (d 6), .int (nI kp), .int (nI pl), .int wr])), ((d 5), .inl (G.2.1 0, 30, .inl (upd u 20 4)))] H := hP
        have hD : va_D A [((d 0), .inr (6, [.ref (d 1), .ref (d 2), .ref (d 3), .int (nI kn), .ref (d 4), .int (nI ln), .int th, .ref (d 5), .int 21, .ref (d 6), .int (nI kp), .int (nI pl), .int wr])), ((d 5), .inl (G.2.1 0, 30, .inl (upd u 20 4)))] := hD
        have hP9 := hP.sub (ws' := [((d 0), .inr (6, [.ref (d 1), .ref (d 2), .ref (d 3), .int (nI kn), .ref (d 4), .int (nI ln), .int th, .ref (d 5), .int 21, .ref (d 6), .int (nI kp), .int (nI pl), .int wr])), ((d 5), .inl (G.2.1 0, 30, .inl (upd u 20 4)))]) [0, 1] rfl
        have hD9 := hD.sub (ws' := [((d 0), .inr (6, [.ref (d 1), .ref (d 2), .ref (d 3), .int (nI kn), .ref (d 4), .int (nI ln), .int th, .ref (d 5), .int 21, .ref (d 6), .int (nI kp), .int (nI pl), .int wr])), ((d 5), .inl (G.2.1 0, 30, .inl (upd u 20 4)))]) [0, 1] (by decide) rfl
        exact z_vret hx hb hr hlocks (upd u 20 4) hP9 hD9 hS (Nat.le_of_ble_eq_true rfl) (Nat.le_of_ble_eq_true rfl) dX6_layFrame_87 (fun j hj => if h : j = 20 then by subst h; rfl else (pk_un h).trans (hu j (by omega)))
      · have hk : k < 9 := by have := mt (z_le (a := 9) rfl rfl (by omega) (by omega)).mpr c_1; omega
        refine lv_aload_n hx hb dX6_layFrame_26 rfl (lv_at hl 0 rfl) ?_
        refine va_get (D := G.1) (ci := 6) (v := .ref (d 5)) (C := RX6) (T := TX6) (N := 13) hx hb hts zi_X6_layFrame_X6 hown hK.1 hP 0 rfl rfl 7 (by decide) (hts _ zw_X6_layFrame_f22) (fun _ h9 => h9) rfl dX6_layFrame_27 ?_
        refine lv_iconst (v := 2) hx hb dX6_layFrame_30 (by decide) ?_
        refine lv_iconst (v := 2) hx hb dX6_layFrame_31 (by decide) ?_
        refine lv_iload hx hb dX6_layFrame_32 (lv_at hl 4 rfl) ?_
        refine lv_imul hx hb dX6_layFrame_34 ?_
        refine lv_iadd hx hb dX6_layFrame_35 ?_
        refine z_top (show _ = nI cc by rw [hcc]; exact zx2 2 k) ?_
        refine lv_iconst (v := 4) hx hb dX6_layFrame_36 (by decide) ?_
        refine z_iast (k := cc) hx hb hK.1 hP hD hS 1 0 rfl rfl rfl (by omega) (by omega) dX6_layFrame_37 (fun H locs hP hD hS => ?_)
        have hP : va_P G.1 vwCl [((d 0), .inr (6, [.ref (d 1), .ref (d 2), .ref (d 3), .int (nI kn), .ref (d 4), .int (nI ln), .int th, .ref (d 5), .int (nI tm), .ref (d 6), .int (nI kp), .int (nI pl), .int wr])), ((d 5), .inl (G.2.1 0, 30, .inl (upd u cc 4)))] H := hP
        have hD : va_D A [((d 0), .inr (6, [.ref (d 1), .ref (d 2), .ref (d 3), .int (nI kn), .ref (d 4), .int (nI ln), .int th, .ref (d 5), .int (nI tm), .ref (d 6), .int (nI kp), .int (nI pl), .int wr])), ((d 5), .inl (G.2.1 0, 30, .inl (upd u cc 4)))] := hD
        refine lv_aload_n hx hb dX6_layFrame_38 rfl (lv_at hl 0 rfl) ?_
        refine va_get (D := G.1) (ci := 6) (v := .ref (d 5)) (C := RX6) (T := TX6) (N := 13) hx hb hts zi_X6_layFrame_X6 hown hK.1 hP 0 rfl rfl 7 (by decide) (hts _ zw_X6_layFrame_f22) (fun _ h9 => h9) rfl dX6_layFrame_39 ?_
        refine lv_iconst (v := 3) hx hb dX6_layFrame_42 (by decide) ?_
        refine lv_iconst (v := 2) hx hb dX6_layFrame_43 (by decide) ?_
        refine lv_iload hx hb dX6_layFrame_44 (lv_at hl 4 rfl) ?_
        refine lv_imul hx hb dX6_layFrame_46 ?_
        refine lv_iadd hx hb dX6_layFrame_47 ?_
        refine z_top (show _ = nI (cc + 1) by rw [hcc]; exact (zx2 3 k).trans (congrArg nI (by omega))) ?_
        refine lv_iload_n hx hb dX6_layFrame_48 rfl (lv_at hl 1 rfl) ?_
        refine lv_iload_n hx hb dX6_layFrame_49 rfl (lv_at hl 2 rfl) ?_
        refine lv_iload_n hx hb dX6_layFrame_50 rfl (lv_at hl 3 rfl) ?_
        refine lv_iload hx hb dX6_layFrame_51 (lv_at hl 4 rfl) ?_
        have hPc := hP.sub (ws' := []) [] rfl
        have hDc := hD.sub (ws' := []) [] (by decide) rfl
        refine z_calli (wr := [((d 0), .inr (6, [.ref (d 1), .ref (d 2), .ref (d 3), .int (nI kn), .ref (d 4), .int (nI ln), .int th, .ref (d 5), .int (nI tm), .ref (d 6), .int (nI kp), .int (nI pl), .int wr])), ((d 5), .inl (G.2.1 0, 30, .inl (upd u cc 4)))]) (va_runS (As := [.int (nI ad), .int (nI co), .int (nI tg), .int (nI k)]) (rest := [.int (nI (cc + 1)), .ref (d 5)]) ⟨hx, hb, hml, hown, hts⟩ (c_X6_bitOf l G H.size ad co tg k hx9 hy9 ht9 (by omega)) (va_cwS 4 hts gX6_layFrame_X6_bitOf rfl rfl rfl (by decide +kernel) ⟨(Nat.le_of_ble_eq_true rfl), (Nat.le_of_ble_eq_true rfl)⟩) (zS hK hPc hDc) rfl rfl hl.1 rfl (lv_room (Nat.le_of_ble_eq_true rfl)) dX6_layFrame_53 ⟨(Nat.le_of_ble_eq_true rfl), (Nat.le_of_ble_eq_true rfl)⟩) hP hD hS hA [] [0, 1] rfl rfl (by decide) (by decide) (fun r_2 u_2 H locs hw_2 hP hD hS => ?_)
        subst hw_2
        have hP : va_P G.1 vwCl [((d 0), .inr (6, [.ref (d 1), .ref (d 2), .ref (d 3), .int (nI kn), .ref (d 4), .int (nI ln), .int th, .ref (d 5), .int (nI tm), .ref (d 6), .int (nI kp), .int (nI pl), .int wr])), ((d 5), .inl (G.2.1 0, 30, .inl (upd u cc 4)))] H := hP
        have hD : va_D A [((d 0), .inr (6, [.ref (d 1), .ref (d 2), .ref (d 3), .int (nI kn), .ref (d 4), .int (nI ln), .int th, .ref (d 5), .int (nI tm), .ref (d 6), .int (nI kp), .int (nI pl), .int wr])), ((d 5), .inl (G.2.1 0, 30, .inl (upd u cc 4)))] := hD
        refine lv_iconst (v := 1) hx hb dX6_layFrame_56 (by decide) ?_
        refine lv_icmp_ne (tgt := 65) hx hb dX6_layFrame_57 (by decide) (fun c_3 => ?_) (fun c_3 => ?_)
        · refine lv_iconst (v := 4) hx hb dX6_layFrame_65 (by decide) ?_
          refine z_iast (k := (cc + 1)) hx hb hK.1 hP hD hS 1 0 rfl rfl rfl (by omega) (by omega) dX6_layFrame_66 (fun H locs hP hD hS => ?_)
          have hP : va_P G.1 vwCl [((d 0), .inr (6, [.ref (d 1), .ref (d 2), .ref (d 3), .int (nI kn), .ref (d 4), .int (nI ln), .int th, .ref (d 5), .int (nI tm), .ref (d 6), .int (nI kp), .int (nI pl), .int wr])), ((d 5), .inl (G.2.1 0, 30, .inl (upd (upd u cc 4) (cc + 1) 4)))] H := hP
          have hD : va_D A [((d 0), .inr (6, [.ref (d 1), .ref (d 2), .ref (d 3), .int (nI kn), .ref (d 4), .int (nI ln), .int th, .ref (d 5), .int (nI tm), .ref (d 6), .int (nI kp), .int (nI pl), .int wr])), ((d 5), .inl (G.2.1 0, 30, .inl (upd (upd u cc 4) (cc + 1) 4)))] := hD
          refine lv_iinc (v := (nI (k + 1))) (lv' := [(4, .int (nI (k + 1))), (0, .ref (d 0)), (1, .int (nI ad)), (2, .int (nI co)), (3, .int (nI tg))]) hx hb dX6_layFrame_67 hl (k := 4) rfl (nI_1 k) (by decide) rfl (fun ls hl => ?_)
          refine lv_goto (tgt := 19) hx hb dX6_layFrame_70 (by decide) ?_
          exact ih (k + 1) (cc + 1 + 1) (upd (upd u cc 4) (cc + 1) 4) (by omega) (by omega) (by omega) (frS_add hcc hu (by rw [if_neg (fun z => c_3 (by rw [z]; rfl))]) (by omega)) _ _ _ (hP.sub [0, 1] rfl) (hD.sub [0, 1] (by decide) rfl) hS (lv_sub hl [1, 2, 3, 4, 0] rfl)
        · refine lv_bipush (v := 12) hx hb dX6_layFrame_60 (by decide) ?_
          refine lv_goto (tgt := 66) hx hb dX6_layFrame_62 (by decide) ?_
          refine z_iast (k := (cc + 1)) hx hb hK.1 hP hD hS 1 0 rfl rfl rfl (by omega) (by omega) dX6_layFrame_66 (fun H locs hP hD hS => ?_)
          have hP : va_P G.1 vwCl [((d 0), .inr (6, [.ref (d 1), .ref (d 2), .ref (d 3), .int (nI kn), .ref (d 4), .int (nI ln), .int th, .ref (d 5), .int (nI tm), .ref (d 6), .int (nI kp), .int (nI pl), .int wr])), ((d 5), .inl (G.2.1 0, 30, .inl (upd (upd u cc 4) (cc + 1) 12)))] H := hP
          have hD : va_D A [((d 0), .inr (6, [.ref (d 1), .ref (d 2), .ref (d 3), .int (nI kn), .ref (d 4), .int (nI ln), .int th, .ref (d 5), .int (nI tm), .ref (d 6), .int (nI kp), .int (nI pl), .int wr])), ((d 5), .inl (G.2.1 0, 30, .inl (upd (upd u cc 4) (cc + 1) 12)))] := hD
          refine lv_iinc (v := (nI (k + 1))) (lv' := [(4, .int (nI (k + 1))), (0, .ref (d 0)), (1, .int (nI ad)), (2, .int (nI co)), (3, .int (nI tg))]) hx hb dX6_layFrame_67 hl (k := 4) rfl (nI_1 k) (by decide) rfl (fun ls hl => ?_)
          refine lv_goto (tgt := 19) hx hb dX6_layFrame_70 (by decide) ?_
          exact ih (k + 1) (cc + 1 + 1) (upd (upd u cc 4) (cc + 1) 12) (by omega) (by omega) (by omega) (frS_add hcc hu (by rw [if_pos ((z_eq (b := 1) rfl rfl (by omega) (by omega)).mp c_3)]) (by omega)) _ _ _ (hP.sub [0, 1] rfl) (hD.sub [0, 1] (by decide) rfl) hS (lv_sub hl [1, 2, 3, 4, 0] rfl)
  exact loop _ 0 2 (upd (upd l9 0 16) 1 8) (Nat.lt_succ_self _) (by omega) rfl (fun j hj => by rcases (show j = 0 ∨ j = 1 by omega) with rfl | rfl <;> rfl) _ _ _ (hP.sub [0, 1] rfl) (hD.sub [0, 1] (by decide) rfl) hS (lv_sub hl [1, 2, 3, 4, 0] rfl)
theorem zw_X6_layRepeat_f22 : Cond.fieldLink RX6 22 "LightReceiverModel" "light" "[I" ∈ wsX6_layRepeat := by decide +kernel
theorem zi_X6_layRepeat_X6 : ∀ w ∈ wsX60, w ∈ wsX6_layRepeat := fun _ h => List.mem_cons_of_mem _ (List.mem_append_right _ h)
theorem zw_X6_layRepeat_f43 : Cond.fieldLink RX6 43 "LightReceiverModel" "times" "I" ∈ wsX6_layRepeat := by decide +kernel
set_option maxHeartbeats 4000000 in
set_option maxRecDepth 100000 in
theorem c_X6_layRepeat (l : Launch) (G : zG) (sz : Nat) (d : Nat → Nat) (kn ln tm kp pl : Nat) (th wr : Int32) (l9 : zF) : zMv l yX6_layRepeat wsX6_layRepeat ({ frames := 0, cells := 0, slots := 0, locals := 0 } : Room) [.ref (d 0)] G [((d 0), .inr (6, [.ref (d 1), .ref (d 2), .ref (d 3), .int (nI kn), .ref (d 4), .int (nI ln), .int th, .ref (d 5), .int (nI tm), .ref (d 6), .int (nI kp), .int (nI pl), .int wr])), ((d 5), .inl (G.2.1 0, 30, .inl l9))] (fun (u : zF) => ∀ j, j < 3 → u j = rpS j) (fun u => [((d 0), .inr (6, [.ref (d 1), .ref (d 2), .ref (d 3), .int (nI kn), .ref (d 4), .int (nI ln), .int th, .ref (d 5), .int (nI 3), .ref (d 6), .int (nI kp), .int (nI pl), .int wr])), ((d 5), .inl (G.2.1 0, 30, .inl u))]) sz 0 0 := by
  refine zMv_of (cc := cX6_layRepeat) (maxL := 1) (ret := none) (by decide) rfl (Nat.le_of_ble_eq_true rfl) ?_
  intro p e s m args below meth c A ls hx hb hr hml hts hown hlocks hnm hK hP hD hAe hS hA hl hsz
  have hown : s.vm.findClass RX6 = some m.cls := hown
  have hP : va_P G.1 vwCl [((d 0), .inr (6, [.ref (d 1), .ref (d 2), .ref (d 3), .int (nI kn), .ref (d 4), .int (nI ln), .int th, .ref (d 5), .int (nI tm), .ref (d 6), .int (nI kp), .int (nI pl), .int wr])), ((d 5), .inl (G.2.1 0, 30, .inl l9))] s.heap := hP
  have hD : va_D A [((d 0), .inr (6, [.ref (d 1), .ref (d 2), .ref (d 3), .int (nI kn), .ref (d 4), .int (nI ln), .int th, .ref (d 5), .int (nI tm), .ref (d 6), .int (nI kp), .int (nI pl), .int wr])), ((d 5), .inl (G.2.1 0, 30, .inl l9))] := hD
  have hl : lv_has ls 1 [(0, .ref (d 0))] := hl
  refine lv_aload_n hx hb dX6_layRepeat_0 rfl (lv_at hl 0 rfl) ?_
  refine va_get (D := G.1) (ci := 6) (v := .ref (d 5)) (C := RX6) (T := TX6) (N := 13) hx hb hts zi_X6_layRepeat_X6 hown hK.1 hP 0 rfl rfl 7 (by decide) (hts _ zw_X6_layRepeat_f22) (fun _ h9 => h9) rfl dX6_layRepeat_1 ?_
  refine lv_iconst (v := 0) hx hb dX6_layRepeat_4 (by decide) ?_
  refine lv_bipush (v := 16) hx hb dX6_layRepeat_5 (by decide) ?_
  refine z_iast (k := 0) hx hb hK.1 hP hD hS 1 0 rfl rfl rfl (by omega) (by omega) dX6_layRepeat_7 (fun H locs hP hD hS => ?_)
  have hP : va_P G.1 vwCl [((d 0), .inr (6, [.ref (d 1), .ref (d 2), .ref (d 3), .int (nI kn), .ref (d 4), .int (nI ln), .int th, .ref (d 5), .int (nI tm), .ref (d 6), .int (nI kp), .int (nI pl), .int wr])), ((d 5), .inl (G.2.1 0, 30, .inl (upd l9 0 16)))] H := hP
  have hD : va_D A [((d 0), .inr (6, [.ref (d 1), .ref (d 2), .ref (d 3), .int (nI kn), .ref (d 4), .int (nI ln), .int th, .ref (d 5), .int (nI tm), .ref (d 6), .int (nI kp), .int (nI pl), .int wr])), ((d 5), .inl (G.2.1 0, 30, .inl (upd l9 0 16)))] := hD
  refine lv_aload_n hx hb dX6_layRepeat_8 rfl (lv_at hl 0 rfl) ?_
  refine va_get (D := G.1) (ci := 6) (v := .ref (d 5)) (C := RX6) (T := TX6) (N := 13) hx hb hts zi_X6_layRepeat_X6 hown hK.1 hP 0 rfl rfl 7 (by decide) (hts _ zw_X6_layRepeat_f22) (fun _ h9 => h9) rfl dX6_layRepeat_9 ?_
  refine lv_iconst (v := 1) hx hb dX6_layRepeat_12 (by decide) ?_
  refine lv_iconst (v := 4) hx hb dX6_layRepeat_13 (by decide) ?_
  refine z_iast (k := 1) hx hb hK.1 hP hD hS 1 0 rfl rfl rfl (by omega) (by omega) dX6_layRepeat_14 (fun H locs hP hD hS => ?_)
  have hP : va_P G.1 vwCl [((d 0), .inr (6, [.ref (d 1), .ref (d 2), .ref (d 3), .int (nI kn), .ref (d 4), .int (nI ln), .int th, .ref (d 5), .int (nI tm), .ref (d 6), .int (nI kp), .int (nI pl), .int wr])), ((d 5), .inl (G.2.1 0, 30, .inl (upd (upd l9 0 16) 1 4)))] H := hP
  have hD : va_D A [((d 0), .inr (6, [.ref (d 1), .ref (d 2), .ref (d 3), .int (nI kn), .ref (d 4), .int (nI ln), .int th, .ref (d 5), .int (nI tm), .ref (d 6), .int (nI kp), .int (nI pl), .int wr])), ((d 5), .inl (G.2.1 0, 30, .inl (upd (upd l9 0 16) 1 4)))] := hD
  refine lv_aload_n hx hb dX6_layRepeat_15 rfl (lv_at hl 0 rfl) ?_
  refine va_get (D := G.1) (ci := 6) (v := .ref (d 5)) (C := RX6) (T := TX6) (N := 13) hx hb hts zi_X6_layRepeat_X6 hown hK.1 hP 0 rfl rfl 7 (by decide) (hts _ zw_X6_layRepeat_f22) (fun _ h9 => h9) rfl dX6_layRepeat_16 ?_
  refine lv_iconst (v := 2) hx hb dX6_layRepeat_19 (by decide) ?_
  refine lv_iconst (v := 4) hx hb dX6_layRepeat_20 (by decide) ?_
  refine z_iast (k := 2) hx hb hK.1 hP hD hS 1 0 rfl rfl rfl (by omega) (by omega) dX6_layRepeat_21 (fun H locs hP hD hS => ?_)
  have hP : va_P G.1 vwCl [((d 0), .inr (6, [.ref (d 1), .ref (d 2), .ref (d 3), .int (nI kn), .ref (d 4), .int (nI ln), .int th, .ref (d 5), .int (nI tm), .ref (d 6), .int (nI kp), .int (nI pl), .int wr])), ((d 5), .inl (G.2.1 0, 30, .inl (upd (upd (upd l9 0 16) 1 4) 2 4)))] H := hP
  have hD : va_D A [((d 0), .inr (6, [.ref (d 1), .ref (d 2), .ref (d 3), .int (nI kn), .ref (d 4), .int (nI ln), .int th, .ref (d 5), .int (nI tm), .ref (d 6), .int (nI kp), .int (nI pl), .int wr])), ((d 5), .inl (G.2.1 0, 30, .inl (upd (upd (upd l9 0 16) 1 4) 2 4)))] := hD
  refine lv_aload_n hx hb dX6_layRepeat_22 rfl (lv_at hl 0 rfl) ?_
  refine lv_iconst (v := 3) hx hb dX6_layRepeat_23 (by decide) ?_
  refine va_put (D := G.1) (ci := 6) (v := .int 3) (ty := .int) (C := RX6) (T := TX6) (N := 13) hx hb hts zi_X6_layRepeat_X6 tyX6 tyX6_ok nmX6 hown hK.1 hP hD hS 0 rfl rfl 8 (by decide) (hts _ zw_X6_layRepeat_f43) (fun _ h9 => h9) rfl (by decide +kernel) rfl rfl (Nat.le_of_ble_eq_true rfl) dX6_layRepeat_24 (fun H locs hP hD hS => ?_)
  have hP : va_P G.1 vwCl [((d 0), .inr (6, [.ref (d 1), .ref (d 2), .ref (d 3), .int (nI kn), .ref (d 4), .int (nI ln), .int th, .ref (d 5), .int 3, .ref (d 6), .int (nI kp), .int (nI pl), .int wr])), ((d 5), .inl (G.2.1 0, 30, .inl (upd (upd (upd l9 0 16) 1 4) 2 4)))] H := hP
  have hD : va_D A [((d 0), .inr (6, [.ref (d 1), .ref (d 2), .ref (d 3), .int (nI kn), .ref (d 4), .int (nI ln), .int th, .ref (d 5), .int 3, .ref (d 6), .int (nI kp), .int (nI pl), .int wr])), ((d 5), .inl (G.2.1 0, 30, .inl (upd (upd (upd l9 0 16) 1 4) 2 4)))] := hD
  have hP9 := hP.sub (ws' := [((d 0), .inr (6, [.ref (d 1), .ref (d 2), .ref (d 3), .int (nI kn), .ref (d 4), .int (nI ln), .int th, .ref (d 5), .int 3, .ref (d 6), .int (nI kp), .int (nI pl), .int wr])), ((d 5), .inl (G.2.1 0, 30, .inl (upd (upd (upd l9 0 16) 1 4) 2 4)))]) [0, 1] rfl
  have hD9 := hD.sub (ws' := [((d 0), .inr (6, [.ref (d 1), .ref (d 2), .ref (d 3), .int (nI kn), .ref (d 4), .int (nI ln), .int th, .ref (d 5), .int 3, .ref (d 6), .int (nI kp), .int (nI pl), .int wr])), ((d 5), .inl (G.2.1 0, 30, .inl (upd (upd (upd l9 0 16) 1 4) 2 4)))]) [0, 1] (by decide) rfl
  exact z_vret hx hb hr hlocks (upd (upd (upd l9 0 16) 1 4) 2 4) hP9 hD9 hS (Nat.le_of_ble_eq_true rfl) (Nat.le_of_ble_eq_true rfl) dX6_layRepeat_27 (fun j hj => by rcases (show j = 0 ∨ j = 1 ∨ j = 2 by omega) with rfl | rfl | rfl <;> rfl)
end
