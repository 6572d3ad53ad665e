section
set_option maxHeartbeats 1000000 in
set_option maxRecDepth 100000 in
theorem c_X1_placeAfterPart (l : Launch) (G : zG) (sz : Nat) (x : Int32) : zMi l yX1_placeAfterPart wsX1_placeAfterPart ({ frames := 0, cells := 0, slots := 0, locals := 0 } : Room) [.int x] G [] (fun (v : Int32) (_ : Unit) => v = nI (if x = 59 then 0 else 9)) (fun _ => []) sz 0 0 := by
  refine zMi_of (cc := cX1_placeAfterPart) (maxL := 1) (ret := (some .int)) (by decide) rfl (Nat.le_of_ble_eq_true rfl) ?_
  intro p e s m args below meth c A ls hx hb hr hml hts hown hlocks hnm hK hP hD hAe hS hA hl hsz
  have hown : s.vm.findClass RX1 = some m.cls := hown
  have hP : va_P G.1 vwCl [] s.heap := hP
  have hD : va_D A [] := hD
  have hl : lv_has ls 1 [(0, .int x)] := hl
  refine lv_iload_n hx hb dX1_placeAfterPart_0 rfl (lv_at hl 0 rfl) ?_
  refine lv_bipush (v := 59) hx hb dX1_placeAfterPart_1 (by decide) ?_
  refine lv_icmp_ne (tgt := 10) hx hb dX1_placeAfterPart_3 (by decide) (fun c_1 => ?_) (fun c_1 => ?_)
  · refine lv_bipush (v := 9) hx hb dX1_placeAfterPart_10 (by decide) ?_
    have hP9 := hP.sub (ws' := []) [] rfl
    have hD9 := hD.sub (ws' := []) [] (by decide) rfl
    exact z_iret hx hb hr rfl hlocks () hP9 hD9 hS (Nat.le_of_ble_eq_true rfl) (Nat.le_of_ble_eq_true rfl) dX1_placeAfterPart_12 (congrArg nI (if_neg c_1)).symm
  · refine lv_iconst (v := 0) hx hb dX1_placeAfterPart_6 (by decide) ?_
    refine lv_goto (tgt := 12) hx hb dX1_placeAfterPart_7 (by decide) ?_
    have hP9 := hP.sub (ws' := []) [] rfl
    have hD9 := hD.sub (ws' := []) [] (by decide) rfl
    exact z_iret hx hb hr rfl hlocks () hP9 hD9 hS (Nat.le_of_ble_eq_true rfl) (Nat.le_of_ble_eq_true rfl) dX1_placeAfterPart_12 (congrArg nI (if_pos c_1)).symm
set_option maxHeartbeats 1000000 in
set_option maxRecDepth 100000 in
theorem c_X1_placeAfterLetter (l : Launch) (G : zG) (sz : Nat) (x : Int32) : zMi l yX1_placeAfterLetter wsX1_placeAfterLetter ({ frames := 0, cells := 0, slots := 0, locals := 0 } : Room) [.int x] G [] (fun (v : Int32) (_ : Unit) => v = nI (plA 0 x)) (fun _ => []) sz 0 0 := by
  refine zMi_of (cc := cX1_placeAfterLetter) (maxL := 1) (ret := (some .int)) (by decide) rfl (Nat.le_of_ble_eq_true rfl) ?_
  intro p e s m args below meth c A ls hx hb hr hml hts hown hlocks hnm hK hP hD hAe hS hA hl hsz
  have hown : s.vm.findClass RX1 = some m.cls := hown
  have hP : va_P G.1 vwCl [] s.heap := hP
  have hD : va_D A [] := hD
  have hl : lv_has ls 1 [(0, .int x)] := hl
  refine lv_iload_n hx hb dX1_placeAfterLetter_0 rfl (lv_at hl 0 rfl) ?_
  by_cases q_1 : x = 102
  · refine z_top q_1 ?_
    refine lv_lookup (x := 102) (off := 43) (tgt := 44) hx hb dX1_placeAfterLetter_1 (by decide) (by decide) (by decide) ?_
    refine lv_iconst (v := 1) hx hb dX1_placeAfterLetter_44 (by decide) ?_
    have hP9 := hP.sub (ws' := []) [] rfl
    have hD9 := hD.sub (ws' := []) [] (by decide) rfl
    exact z_iret hx hb hr rfl hlocks () hP9 hD9 hS (Nat.le_of_ble_eq_true rfl) (Nat.le_of_ble_eq_true rfl) dX1_placeAfterLetter_45 (congrArg (fun z => nI (plA 0 z)) q_1).symm
  by_cases q_2 : x = 103
  · refine z_top q_2 ?_
    refine lv_lookup (x := 103) (off := 50) (tgt := 51) hx hb dX1_placeAfterLetter_1 (by decide) (by decide) (by decide) ?_
    refine lv_bipush (v := 7) hx hb dX1_placeAfterLetter_51 (by decide) ?_
    have hP9 := hP.sub (ws' := []) [] rfl
    have hD9 := hD.sub (ws' := []) [] (by decide) rfl
    exact z_iret hx hb hr rfl hlocks () hP9 hD9 hS (Nat.le_of_ble_eq_true rfl) (Nat.le_of_ble_eq_true rfl) dX1_placeAfterLetter_53 (congrArg (fun z => nI (plA 0 z)) q_2).symm
  by_cases q_3 : x = 114
  · refine z_top q_3 ?_
    refine lv_lookup (x := 114) (off := 45) (tgt := 46) hx hb dX1_placeAfterLetter_1 (by decide) (by decide) (by decide) ?_
    refine lv_bipush (v := 8) hx hb dX1_placeAfterLetter_46 (by decide) ?_
    have hP9 := hP.sub (ws' := []) [] rfl
    have hD9 := hD.sub (ws' := []) [] (by decide) rfl
    exact z_iret hx hb hr rfl hlocks () hP9 hD9 hS (Nat.le_of_ble_eq_true rfl) (Nat.le_of_ble_eq_true rfl) dX1_placeAfterLetter_48 (congrArg (fun z => nI (plA 0 z)) q_3).symm
  by_cases q_4 : x = 116
  · refine z_top q_4 ?_
    refine lv_lookup (x := 116) (off := 48) (tgt := 49) hx hb dX1_placeAfterLetter_1 (by decide) (by decide) (by decide) ?_
    refine lv_iconst (v := 5) hx hb dX1_placeAfterLetter_49 (by decide) ?_
    have hP9 := hP.sub (ws' := []) [] rfl
    have hD9 := hD.sub (ws' := []) [] (by decide) rfl
    exact z_iret hx hb hr rfl hlocks () hP9 hD9 hS (Nat.le_of_ble_eq_true rfl) (Nat.le_of_ble_eq_true rfl) dX1_placeAfterLetter_50 (congrArg (fun z => nI (plA 0 z)) q_4).symm
  refine lv_lookup (x := x) (off := 53) (tgt := 54) hx hb dX1_placeAfterLetter_1 (by decide) (show Op.lookupswitch.offset [(102, 43), (103, 50), (114, 45), (116, 48)] 53 (x).toInt = 53 by rw [lv_osw q_1 (k := 102) (by decide), lv_osw q_2 (k := 103) (by decide), lv_osw q_3 (k := 114) (by decide), lv_osw q_4 (k := 116) (by decide)]; rfl) (by decide) ?_
  refine lv_bipush (v := 9) hx hb dX1_placeAfterLetter_54 (by decide) ?_
  have hP9 := hP.sub (ws' := []) [] rfl
  have hD9 := hD.sub (ws' := []) [] (by decide) rfl
  exact z_iret hx hb hr rfl hlocks () hP9 hD9 hS (Nat.le_of_ble_eq_true rfl) (Nat.le_of_ble_eq_true rfl) dX1_placeAfterLetter_56 (congrArg nI (plA_0n q_1 q_2 q_3 q_4)).symm
theorem zw_X1_placeAfter_ini_X5 : Cond.initialized RX5 ∈ wsX1_placeAfter := by decide +kernel
theorem zw_X1_placeAfter_sta_X5_isWithin : Cond.static yX5_isWithin ∈ wsX1_placeAfter := by decide +kernel
set_option maxHeartbeats 1000000 in
set_option maxRecDepth 100000 in
theorem c_X1_placeAfter (l : Launch) (G : zG) (sz : Nat) (qp : Nat) (hqp : qp ≤ 9) (x : Int32) : zMi l yX1_placeAfter wsX1_placeAfter ({ frames := 1, cells := 0, slots := 0, locals := 22 } : Room) [.int (nI qp), .int x] G [] (fun (v : Int32) (_ : Unit) => v = nI (plA qp x)) (fun _ => []) sz 0 0 := by
  refine zMi_of (cc := cX1_placeAfter) (maxL := 2) (ret := (some .int)) (by decide) rfl (Nat.le_of_ble_eq_true rfl) ?_
  intro p e s m args below meth c A ls hx hb hr hml hts hown hlocks hnm hK hP hD hAe hS hA hl hsz
  have hown : s.vm.findClass RX1 = some m.cls := hown
  have hP : va_P G.1 vwCl [] s.heap := hP
  have hD : va_D A [] := hD
  have hl : lv_has ls 2 [(0, .int (nI qp)), (1, .int x)] := hl
  rcases (show qp = 0 ∨ qp = 1 ∨ qp = 2 ∨ qp = 3 ∨ qp = 4 ∨ qp = 5 ∨ qp = 6 ∨ qp = 7 ∨ qp = 8 ∨ qp = 9 by omega) with rfl | rfl | rfl | rfl | rfl | rfl | rfl | rfl | rfl | rfl
  · refine lv_iload_n hx hb dX1_placeAfter_0 rfl (lv_at hl 0 rfl) ?_
    refine lv_tableIn (x := nI 0) (off := 51) (tgt := 52) hx hb dX1_placeAfter_1 (by decide) (by decide) (by decide) (by decide) ?_
    refine lv_iload_n hx hb dX1_placeAfter_52 rfl (lv_at hl 1 rfl) ?_
    have hPc := hP.sub (ws' := []) [] rfl
    have hDc := hD.sub (ws' := []) [] (by decide) rfl
    refine z_calli (wr := []) (va_runS (As := [.int x]) (rest := []) ⟨hx, hb, hml, hown, hts⟩ (c_X1_placeAfterLetter l G s.heap.size x) (va_cwS 1 hts gX1_placeAfter_X1_placeAfterLetter rfl rfl rfl (by decide +kernel) ⟨(Nat.le_of_ble_eq_true rfl), (Nat.le_of_ble_eq_true rfl)⟩) (zS hK hPc hDc) rfl rfl hl.1 rfl (lv_room (Nat.le_of_ble_eq_true rfl)) dX1_placeAfter_53 ⟨(Nat.le_of_ble_eq_true rfl), (Nat.le_of_ble_eq_true rfl)⟩) hP hD hS hA [] [] rfl rfl (by decide) (by decide) (fun r_1 u_1 H locs hw_1 hP hD hS => ?_)
    subst hw_1
    have hP : va_P G.1 vwCl [] H := hP
    have hD : va_D A [] := hD
    have hP9 := hP.sub (ws' := []) [] rfl
    have hD9 := hD.sub (ws' := []) [] (by decide) rfl
    exact z_iret hx hb hr rfl hlocks () hP9 hD9 hS (Nat.le_of_ble_eq_true rfl) (Nat.le_of_ble_eq_true rfl) dX1_placeAfter_56 rfl
  · refine lv_iload_n hx hb dX1_placeAfter_0 rfl (lv_at hl 0 rfl) ?_
    refine lv_tableIn (x := nI 1) (off := 56) (tgt := 57) hx hb dX1_placeAfter_1 (by decide) (by decide) (by decide) (by decide) ?_
    refine lv_iload_n hx hb dX1_placeAfter_57 rfl (lv_at hl 1 rfl) ?_
    refine lv_bipush (v := 48) hx hb dX1_placeAfter_58 (by decide) ?_
    refine lv_icmp_ne (tgt := 67) hx hb dX1_placeAfter_60 (by decide) (fun c_2 => ?_) (fun c_2 => ?_)
    · refine lv_iload_n hx hb dX1_placeAfter_67 rfl (lv_at hl 1 rfl) ?_
      refine lv_bipush (v := 49) hx hb dX1_placeAfter_68 (by decide) ?_
      refine lv_icmp_ne (tgt := 77) hx hb dX1_placeAfter_70 (by decide) (fun c_3 => ?_) (fun c_3 => ?_)
      · refine lv_bipush (v := 9) hx hb dX1_placeAfter_77 (by decide) ?_
        have hP9 := hP.sub (ws' := []) [] rfl
        have hD9 := hD.sub (ws' := []) [] (by decide) rfl
        exact z_iret hx hb hr rfl hlocks () hP9 hD9 hS (Nat.le_of_ble_eq_true rfl) (Nat.le_of_ble_eq_true rfl) dX1_placeAfter_79 (congrArg nI ((plA_1 x).trans ((if_neg c_2).trans (if_neg c_3)))).symm
      · refine lv_iconst (v := 3) hx hb dX1_placeAfter_73 (by decide) ?_
        refine lv_goto (tgt := 79) hx hb dX1_placeAfter_74 (by decide) ?_
        have hP9 := hP.sub (ws' := []) [] rfl
        have hD9 := hD.sub (ws' := []) [] (by decide) rfl
        exact z_iret hx hb hr rfl hlocks () hP9 hD9 hS (Nat.le_of_ble_eq_true rfl) (Nat.le_of_ble_eq_true rfl) dX1_placeAfter_79 (congrArg nI ((plA_1 x).trans ((if_neg c_2).trans (if_pos c_3)))).symm
    · refine lv_iconst (v := 2) hx hb dX1_placeAfter_63 (by decide) ?_
      refine lv_goto (tgt := 79) hx hb dX1_placeAfter_64 (by decide) ?_
      have hP9 := hP.sub (ws' := []) [] rfl
      have hD9 := hD.sub (ws' := []) [] (by decide) rfl
      exact z_iret hx hb hr rfl hlocks () hP9 hD9 hS (Nat.le_of_ble_eq_true rfl) (Nat.le_of_ble_eq_true rfl) dX1_placeAfter_79 (congrArg nI ((plA_1 x).trans (if_pos c_2))).symm
  · refine lv_iload_n hx hb dX1_placeAfter_0 rfl (lv_at hl 0 rfl) ?_
    refine lv_tableIn (x := nI 2) (off := 79) (tgt := 80) hx hb dX1_placeAfter_1 (by decide) (by decide) (by decide) (by decide) ?_
    refine lv_iload_n hx hb dX1_placeAfter_80 rfl (lv_at hl 1 rfl) ?_
    refine lv_bipush (v := 48) hx hb dX1_placeAfter_81 (by decide) ?_
    refine lv_bipush (v := 57) hx hb dX1_placeAfter_83 (by decide) ?_
    have hPc := hP.sub (ws' := []) [] rfl
    have hDc := hD.sub (ws' := []) [] (by decide) rfl
    refine z_calli (wr := []) (va_runSN (As := [.int x, .int 48, .int 57]) (rest := []) ⟨hx, hb, hml, hown, hts⟩ (c_X5_isWithin l G s.heap.size x 48 57) ⟨va_cnB 3 hts gX1_placeAfter_X5_isWithin_n35 rfl rfl rfl (zm_6 hK) (hts _ zw_X1_placeAfter_ini_X5) (by decide +kernel) ⟨(Nat.le_of_ble_eq_true rfl), (Nat.le_of_ble_eq_true rfl)⟩, (hts _ zw_X1_placeAfter_sta_X5_isWithin), trivial⟩ (zS hK hPc hDc) rfl rfl hl.1 rfl (lv_room (Nat.le_of_ble_eq_true rfl)) dX1_placeAfter_85 ⟨(Nat.le_of_ble_eq_true rfl), (Nat.le_of_ble_eq_true rfl)⟩) hP hD hS hA [] [] rfl rfl (by decide) (by decide) (fun r_4 u_4 H locs hw_4 hP hD hS => ?_)
    subst hw_4
    have hP : va_P G.1 vwCl [] H := hP
    have hD : va_D A [] := hD
    refine lv_if_eq (tgt := 95) hx hb dX1_placeAfter_88 (by decide) (fun c_5 => ?_) (fun c_5 => ?_)
    · have f_c_5 : ¬ (48 ≤ x ∧ x ≤ 57) := fun z => absurd c_5 (by rw [if_pos z]; decide)
      refine lv_bipush (v := 9) hx hb dX1_placeAfter_95 (by decide) ?_
      have hP9 := hP.sub (ws' := []) [] rfl
      have hD9 := hD.sub (ws' := []) [] (by decide) rfl
      exact z_iret hx hb hr rfl hlocks () hP9 hD9 hS (Nat.le_of_ble_eq_true rfl) (Nat.le_of_ble_eq_true rfl) dX1_placeAfter_97 (congrArg nI ((plA_2 x).trans (if_neg f_c_5))).symm
    · have f_c_5 : 48 ≤ x ∧ x ≤ 57 := Decidable.byContradiction (fun z => c_5 (if_neg z))
      refine lv_iconst (v := 4) hx hb dX1_placeAfter_91 (by decide) ?_
      refine lv_goto (tgt := 97) hx hb dX1_placeAfter_92 (by decide) ?_
      have hP9 := hP.sub (ws' := []) [] rfl
      have hD9 := hD.sub (ws' := []) [] (by decide) rfl
      exact z_iret hx hb hr rfl hlocks () hP9 hD9 hS (Nat.le_of_ble_eq_true rfl) (Nat.le_of_ble_eq_true rfl) dX1_placeAfter_97 (congrArg nI ((plA_2 x).trans (if_pos f_c_5))).symm
  · refine lv_iload_n hx hb dX1_placeAfter_0 rfl (lv_at hl 0 rfl) ?_
    refine lv_tableIn (x := nI 3) (off := 97) (tgt := 98) hx hb dX1_placeAfter_1 (by decide) (by decide) (by decide) (by decide) ?_
    refine lv_iload_n hx hb dX1_placeAfter_98 rfl (lv_at hl 1 rfl) ?_
    refine lv_bipush (v := 48) hx hb dX1_placeAfter_99 (by decide) ?_
    refine lv_bipush (v := 53) hx hb dX1_placeAfter_101 (by decide) ?_
    have hPc := hP.sub (ws' := []) [] rfl
    have hDc := hD.sub (ws' := []) [] (by decide) rfl
    refine z_calli (wr := []) (va_runSN (As := [.int x, .int 48, .int 53]) (rest := []) ⟨hx, hb, hml, hown, hts⟩ (c_X5_isWithin l G s.heap.size x 48 53) ⟨va_cnB 3 hts gX1_placeAfter_X5_isWithin_n35 rfl rfl rfl (zm_6 hK) (hts _ zw_X1_placeAfter_ini_X5) (by decide +kernel) ⟨(Nat.le_of_ble_eq_true rfl), (Nat.le_of_ble_eq_true rfl)⟩, (hts _ zw_X1_placeAfter_sta_X5_isWithin), trivial⟩ (zS hK hPc hDc) rfl rfl hl.1 rfl (lv_room (Nat.le_of_ble_eq_true rfl)) dX1_placeAfter_103 ⟨(Nat.le_of_ble_eq_true rfl), (Nat.le_of_ble_eq_true rfl)⟩) hP hD hS hA [] [] rfl rfl (by decide) (by decide) (fun r_6 u_6 H locs hw_6 hP hD hS => ?_)
    subst hw_6
    have hP : va_P G.1 vwCl [] H := hP
    have hD : va_D A [] := hD
    refine lv_if_eq (tgt := 113) hx hb dX1_placeAfter_106 (by decide) (fun c_7 => ?_) (fun c_7 => ?_)
    · have f_c_7 : ¬ (48 ≤ x ∧ x ≤ 53) := fun z => absurd c_7 (by rw [if_pos z]; decide)
      refine lv_bipush (v := 9) hx hb dX1_placeAfter_113 (by decide) ?_
      have hP9 := hP.sub (ws' := []) [] rfl
      have hD9 := hD.sub (ws' := []) [] (by decide) rfl
      exact z_iret hx hb hr rfl hlocks () hP9 hD9 hS (Nat.le_of_ble_eq_true rfl) (Nat.le_of_ble_eq_true rfl) dX1_placeAfter_115 (congrArg nI ((plA_3 x).trans (if_neg f_c_7))).symm
    · have f_c_7 : 48 ≤ x ∧ x ≤ 53 := Decidable.byContradiction (fun z => c_7 (if_neg z))
      refine lv_iconst (v := 4) hx hb dX1_placeAfter_109 (by decide) ?_
      refine lv_goto (tgt := 115) hx hb dX1_placeAfter_110 (by decide) ?_
      have hP9 := hP.sub (ws' := []) [] rfl
      have hD9 := hD.sub (ws' := []) [] (by decide) rfl
      exact z_iret hx hb hr rfl hlocks () hP9 hD9 hS (Nat.le_of_ble_eq_true rfl) (Nat.le_of_ble_eq_true rfl) dX1_placeAfter_115 (congrArg nI ((plA_3 x).trans (if_pos f_c_7))).symm
  · refine lv_iload_n hx hb dX1_placeAfter_0 rfl (lv_at hl 0 rfl) ?_
    refine lv_tableIn (x := nI 4) (off := 115) (tgt := 116) hx hb dX1_placeAfter_1 (by decide) (by decide) (by decide) (by decide) ?_
    refine lv_iload_n hx hb dX1_placeAfter_116 rfl (lv_at hl 1 rfl) ?_
    refine lv_bipush (v := 48) hx hb dX1_placeAfter_117 (by decide) ?_
    refine lv_bipush (v := 49) hx hb dX1_placeAfter_119 (by decide) ?_
    have hPc := hP.sub (ws' := []) [] rfl
    have hDc := hD.sub (ws' := []) [] (by decide) rfl
    refine z_calli (wr := []) (va_runSN (As := [.int x, .int 48, .int 49]) (rest := []) ⟨hx, hb, hml, hown, hts⟩ (c_X5_isWithin l G s.heap.size x 48 49) ⟨va_cnB 3 hts gX1_placeAfter_X5_isWithin_n35 rfl rfl rfl (zm_6 hK) (hts _ zw_X1_placeAfter_ini_X5) (by decide +kernel) ⟨(Nat.le_of_ble_eq_true rfl), (Nat.le_of_ble_eq_true rfl)⟩, (hts _ zw_X1_placeAfter_sta_X5_isWithin), trivial⟩ (zS hK hPc hDc) rfl rfl hl.1 rfl (lv_room (Nat.le_of_ble_eq_true rfl)) dX1_placeAfter_121 ⟨(Nat.le_of_ble_eq_true rfl), (Nat.le_of_ble_eq_true rfl)⟩) hP hD hS hA [] [] rfl rfl (by decide) (by decide) (fun r_8 u_8 H locs hw_8 hP hD hS => ?_)
    subst hw_8
    have hP : va_P G.1 vwCl [] H := hP
    have hD : va_D A [] := hD
    refine lv_if_eq (tgt := 132) hx hb dX1_placeAfter_124 (by decide) (fun c_9 => ?_) (fun c_9 => ?_)
    · have f_c_9 : ¬ (48 ≤ x ∧ x ≤ 49) := fun z => absurd c_9 (by rw [if_pos z]; decide)
      refine lv_bipush (v := 9) hx hb dX1_placeAfter_132 (by decide) ?_
      have hP9 := hP.sub (ws' := []) [] rfl
      have hD9 := hD.sub (ws' := []) [] (by decide) rfl
      exact z_iret hx hb hr rfl hlocks () hP9 hD9 hS (Nat.le_of_ble_eq_true rfl) (Nat.le_of_ble_eq_true rfl) dX1_placeAfter_134 (congrArg nI ((plA_4 x).trans (if_neg f_c_9))).symm
    · have f_c_9 : 48 ≤ x ∧ x ≤ 49 := Decidable.byContradiction (fun z => c_9 (if_neg z))
      refine lv_bipush (v := 8) hx hb dX1_placeAfter_127 (by decide) ?_
      refine lv_goto (tgt := 134) hx hb dX1_placeAfter_129 (by decide) ?_
      have hP9 := hP.sub (ws' := []) [] rfl
      have hD9 := hD.sub (ws' := []) [] (by decide) rfl
      exact z_iret hx hb hr rfl hlocks () hP9 hD9 hS (Nat.le_of_ble_eq_true rfl) (Nat.le_of_ble_eq_true rfl) dX1_placeAfter_134 (congrArg nI ((plA_4 x).trans (if_pos f_c_9))).symm
  · refine lv_iload_n hx hb dX1_placeAfter_0 rfl (lv_at hl 0 rfl) ?_
    refine lv_tableIn (x := nI 5) (off := 134) (tgt := 135) hx hb dX1_placeAfter_1 (by decide) (by decide) (by decide) (by decide) ?_
    refine lv_iload_n hx hb dX1_placeAfter_135 rfl (lv_at hl 1 rfl) ?_
    refine lv_bipush (v := 49) hx hb dX1_placeAfter_136 (by decide) ?_
    refine lv_bipush (v := 57) hx hb dX1_placeAfter_138 (by decide) ?_
    have hPc := hP.sub (ws' := []) [] rfl
    have hDc := hD.sub (ws' := []) [] (by decide) rfl
    refine z_calli (wr := []) (va_runSN (As := [.int x, .int 49, .int 57]) (rest := []) ⟨hx, hb, hml, hown, hts⟩ (c_X5_isWithin l G s.heap.size x 49 57) ⟨va_cnB 3 hts gX1_placeAfter_X5_isWithin_n35 rfl rfl rfl (zm_6 hK) (hts _ zw_X1_placeAfter_ini_X5) (by decide +kernel) ⟨(Nat.le_of_ble_eq_true rfl), (Nat.le_of_ble_eq_true rfl)⟩, (hts _ zw_X1_placeAfter_sta_X5_isWithin), trivial⟩ (zS hK hPc hDc) rfl rfl hl.1 rfl (lv_room (Nat.le_of_ble_eq_true rfl)) dX1_placeAfter_140 ⟨(Nat.le_of_ble_eq_true rfl), (Nat.le_of_ble_eq_true rfl)⟩) hP hD hS hA [] [] rfl rfl (by decide) (by decide) (fun r_10 u_10 H locs hw_10 hP hD hS => ?_)
    subst hw_10
    have hP : va_P G.1 vwCl [] H := hP
    have hD : va_D A [] := hD
    refine lv_if_eq (tgt := 151) hx hb dX1_placeAfter_143 (by decide) (fun c_11 => ?_) (fun c_11 => ?_)
    · have f_c_11 : ¬ (49 ≤ x ∧ x ≤ 57) := fun z => absurd c_11 (by rw [if_pos z]; decide)
      refine lv_bipush (v := 9) hx hb dX1_placeAfter_151 (by decide) ?_
      have hP9 := hP.sub (ws' := []) [] rfl
      have hD9 := hD.sub (ws' := []) [] (by decide) rfl
      exact z_iret hx hb hr rfl hlocks () hP9 hD9 hS (Nat.le_of_ble_eq_true rfl) (Nat.le_of_ble_eq_true rfl) dX1_placeAfter_153 (congrArg nI ((plA_5 x).trans (if_neg f_c_11))).symm
    · have f_c_11 : 49 ≤ x ∧ x ≤ 57 := Decidable.byContradiction (fun z => c_11 (if_neg z))
      refine lv_bipush (v := 6) hx hb dX1_placeAfter_146 (by decide) ?_
      refine lv_goto (tgt := 153) hx hb dX1_placeAfter_148 (by decide) ?_
      have hP9 := hP.sub (ws' := []) [] rfl
      have hD9 := hD.sub (ws' := []) [] (by decide) rfl
      exact z_iret hx hb hr rfl hlocks () hP9 hD9 hS (Nat.le_of_ble_eq_true rfl) (Nat.le_of_ble_eq_true rfl) dX1_placeAfter_153 (congrArg nI ((plA_5 x).trans (if_pos f_c_11))).symm
  · refine lv_iload_n hx hb dX1_placeAfter_0 rfl (lv_at hl 0 rfl) ?_
    refine lv_tableIn (x := nI 6) (off := 153) (tgt := 154) hx hb dX1_placeAfter_1 (by decide) (by decide) (by decide) (by decide) ?_
    refine lv_iload_n hx hb dX1_placeAfter_154 rfl (lv_at hl 1 rfl) ?_
    refine lv_bipush (v := 48) hx hb dX1_placeAfter_155 (by decide) ?_
    refine lv_bipush (v := 57) hx hb dX1_placeAfter_157 (by decide) ?_
    have hPc := hP.sub (ws' := []) [] rfl
    have hDc := hD.sub (ws' := []) [] (by decide) rfl
    refine z_calli (wr := []) (va_runSN (As := [.int x, .int 48, .int 57]) (rest := []) ⟨hx, hb, hml, hown, hts⟩ (c_X5_isWithin l G s.heap.size x 48 57) ⟨va_cnB 3 hts gX1_placeAfter_X5_isWithin_n35 rfl rfl rfl (zm_6 hK) (hts _ zw_X1_placeAfter_ini_X5) (by decide +kernel) ⟨(Nat.le_of_ble_eq_true rfl), (Nat.le_of_ble_eq_true rfl)⟩, (hts _ zw_X1_placeAfter_sta_X5_isWithin), trivial⟩ (zS hK hPc hDc) rfl rfl hl.1 rfl (lv_room (Nat.le_of_ble_eq_true rfl)) dX1_placeAfter_159 ⟨(Nat.le_of_ble_eq_true rfl), (Nat.le_of_ble_eq_true rfl)⟩) hP hD hS hA [] [] rfl rfl (by decide) (by decide) (fun r_12 u_12 H locs hw_12 hP hD hS => ?_)
    subst hw_12
    have hP : va_P G.1 vwCl [] H := hP
    have hD : va_D A [] := hD
    refine lv_if_eq (tgt := 170) hx hb dX1_placeAfter_162 (by decide) (fun c_13 => ?_) (fun c_13 => ?_)
    · have f_c_13 : ¬ (48 ≤ x ∧ x ≤ 57) := fun z => absurd c_13 (by rw [if_pos z]; decide)
      refine lv_iload_n hx hb dX1_placeAfter_170 rfl (lv_at hl 1 rfl) ?_
      have hPc := hP.sub (ws' := []) [] rfl
      have hDc := hD.sub (ws' := []) [] (by decide) rfl
      refine z_calli (wr := []) (va_runS (As := [.int x]) (rest := []) ⟨hx, hb, hml, hown, hts⟩ (c_X1_placeAfterPart l G H.size x) (va_cwS 1 hts gX1_placeAfter_X1_placeAfterPart rfl rfl rfl (by decide +kernel) ⟨(Nat.le_of_ble_eq_true rfl), (Nat.le_of_ble_eq_true rfl)⟩) (zS hK hPc hDc) rfl rfl hl.1 rfl (lv_room (Nat.le_of_ble_eq_true rfl)) dX1_placeAfter_171 ⟨(Nat.le_of_ble_eq_true rfl), (Nat.le_of_ble_eq_true rfl)⟩) hP hD hS hA [] [] rfl rfl (by decide) (by decide) (fun r_14 u_14 H locs hw_14 hP hD hS => ?_)
      subst hw_14
      have hP : va_P G.1 vwCl [] H := hP
      have hD : va_D A [] := hD
      have hP9 := hP.sub (ws' := []) [] rfl
      have hD9 := hD.sub (ws' := []) [] (by decide) rfl
      exact z_iret hx hb hr rfl hlocks () hP9 hD9 hS (Nat.le_of_ble_eq_true rfl) (Nat.le_of_ble_eq_true rfl) dX1_placeAfter_174 (congrArg nI ((plA_6 x).trans (if_neg f_c_13))).symm
    · have f_c_13 : 48 ≤ x ∧ x ≤ 57 := Decidable.byContradiction (fun z => c_13 (if_neg z))
      refine lv_bipush (v := 8) hx hb dX1_placeAfter_165 (by decide) ?_
      refine lv_goto (tgt := 174) hx hb dX1_placeAfter_167 (by decide) ?_
      have hP9 := hP.sub (ws' := []) [] rfl
      have hD9 := hD.sub (ws' := []) [] (by decide) rfl
      exact z_iret hx hb hr rfl hlocks () hP9 hD9 hS (Nat.le_of_ble_eq_true rfl) (Nat.le_of_ble_eq_true rfl) dX1_placeAfter_174 (congrArg nI ((plA_6 x).trans (if_pos f_c_13))).symm
  · refine lv_iload_n hx hb dX1_placeAfter_0 rfl (lv_at hl 0 rfl) ?_
    refine lv_tableIn (x := nI 7) (off := 174) (tgt := 175) hx hb dX1_placeAfter_1 (by decide) (by decide) (by decide) (by decide) ?_
    refine lv_iload_n hx hb dX1_placeAfter_175 rfl (lv_at hl 1 rfl) ?_
    refine lv_bipush (v := 48) hx hb dX1_placeAfter_176 (by decide) ?_
    refine lv_bipush (v := 57) hx hb dX1_placeAfter_178 (by decide) ?_
    have hPc := hP.sub (ws' := []) [] rfl
    have hDc := hD.sub (ws' := []) [] (by decide) rfl
    refine z_calli (wr := []) (va_runSN (As := [.int x, .int 48, .int 57]) (rest := []) ⟨hx, hb, hml, hown, hts⟩ (c_X5_isWithin l G s.heap.size x 48 57) ⟨va_cnB 3 hts gX1_placeAfter_X5_isWithin_n35 rfl rfl rfl (zm_6 hK) (hts _ zw_X1_placeAfter_ini_X5) (by decide +kernel) ⟨(Nat.le_of_ble_eq_true rfl), (Nat.le_of_ble_eq_true rfl)⟩, (hts _ zw_X1_placeAfter_sta_X5_isWithin), trivial⟩ (zS hK hPc hDc) rfl rfl hl.1 rfl (lv_room (Nat.le_of_ble_eq_true rfl)) dX1_placeAfter_180 ⟨(Nat.le_of_ble_eq_true rfl), (Nat.le_of_ble_eq_true rfl)⟩) hP hD hS hA [] [] rfl rfl (by decide) (by decide) (fun r_15 u_15 H locs hw_15 hP hD hS => ?_)
    subst hw_15
    have hP : va_P G.1 vwCl [] H := hP
    have hD : va_D A [] := hD
    refine lv_if_eq (tgt := 191) hx hb dX1_placeAfter_183 (by decide) (fun c_16 => ?_) (fun c_16 => ?_)
    · have f_c_16 : ¬ (48 ≤ x ∧ x ≤ 57) := fun z => absurd c_16 (by rw [if_pos z]; decide)
      refine lv_bipush (v := 9) hx hb dX1_placeAfter_191 (by decide) ?_
      have hP9 := hP.sub (ws' := []) [] rfl
      have hD9 := hD.sub (ws' := []) [] (by decide) rfl
      exact z_iret hx hb hr rfl hlocks () hP9 hD9 hS (Nat.le_of_ble_eq_true rfl) (Nat.le_of_ble_eq_true rfl) dX1_placeAfter_193 (congrArg nI ((plA_7 x).trans (if_neg f_c_16))).symm
    · have f_c_16 : 48 ≤ x ∧ x ≤ 57 := Decidable.byContradiction (fun z => c_16 (if_neg z))
      refine lv_bipush (v := 8) hx hb dX1_placeAfter_186 (by decide) ?_
      refine lv_goto (tgt := 193) hx hb dX1_placeAfter_188 (by decide) ?_
      have hP9 := hP.sub (ws' := []) [] rfl
      have hD9 := hD.sub (ws' := []) [] (by decide) rfl
      exact z_iret hx hb hr rfl hlocks () hP9 hD9 hS (Nat.le_of_ble_eq_true rfl) (Nat.le_of_ble_eq_true rfl) dX1_placeAfter_193 (congrArg nI ((plA_7 x).trans (if_pos f_c_16))).symm
  · refine lv_iload_n hx hb dX1_placeAfter_0 rfl (lv_at hl 0 rfl) ?_
    refine lv_tableIn (x := nI 8) (off := 193) (tgt := 194) hx hb dX1_placeAfter_1 (by decide) (by decide) (by decide) (by decide) ?_
    refine lv_iload_n hx hb dX1_placeAfter_194 rfl (lv_at hl 1 rfl) ?_
    have hPc := hP.sub (ws' := []) [] rfl
    have hDc := hD.sub (ws' := []) [] (by decide) rfl
    refine z_calli (wr := []) (va_runS (As := [.int x]) (rest := []) ⟨hx, hb, hml, hown, hts⟩ (c_X1_placeAfterPart l G s.heap.size x) (va_cwS 1 hts gX1_placeAfter_X1_placeAfterPart rfl rfl rfl (by decide +kernel) ⟨(Nat.le_of_ble_eq_true rfl), (Nat.le_of_ble_eq_true rfl)⟩) (zS hK hPc hDc) rfl rfl hl.1 rfl (lv_room (Nat.le_of_ble_eq_true rfl)) dX1_placeAfter_195 ⟨(Nat.le_of_ble_eq_true rfl), (Nat.le_of_ble_eq_true rfl)⟩) hP hD hS hA [] [] rfl rfl (by decide) (by decide) (fun r_17 u_17 H locs hw_17 hP hD hS => ?_)
    subst hw_17
    have hP : va_P G.1 vwCl [] H := hP
    have hD : va_D A [] := hD
    have hP9 := hP.sub (ws' := []) [] rfl
    have hD9 := hD.sub (ws' := []) [] (by decide) rfl
    exact z_iret hx hb hr rfl hlocks () hP9 hD9 hS (Nat.le_of_ble_eq_true rfl) (Nat.le_of_ble_eq_true rfl) dX1_placeAfter_198 (congrArg nI (plA_8 x)).symm
  · refine lv_iload_n hx hb dX1_placeAfter_0 rfl (lv_at hl 0 rfl) ?_
    refine lv_tableOut (x := nI 9) (tgt := 199) hx hb dX1_placeAfter_1 (by decide) (by decide) ?_
    refine lv_bipush (v := 9) hx hb dX1_placeAfter_199 (by decide) ?_
    have hP9 := hP.sub (ws' := []) [] rfl
    have hD9 := hD.sub (ws' := []) [] (by decide) rfl
    exact z_iret hx hb hr rfl hlocks () hP9 hD9 hS (Nat.le_of_ble_eq_true rfl) (Nat.le_of_ble_eq_true rfl) dX1_placeAfter_201 rfl
theorem zw_X1_firstWrong_f14 : Cond.fieldLink RX1 14 "LightReceiver$LightText" "signs" "LLightReceiver$Row;" ∈ wsX1_firstWrong := by decide +kernel
theorem zi_X1_firstWrong_X1 : ∀ w ∈ wsX10, w ∈ wsX1_firstWrong := fun _ h => List.mem_cons_of_mem _ (List.mem_append_left _ (List.mem_append_right _ h))
theorem zi_X1_firstWrong_X2 : ∀ w ∈ wsX20, w ∈ wsX1_firstWrong := fun _ h => List.mem_cons_of_mem _ (List.mem_append_right _ h)
set_option maxHeartbeats 1000000 in
set_option maxRecDepth 100000 in
theorem c_X1_firstWrong (l : Launch) (G : zG) (sz : Nat) (y2 tr tv tn : Nat) (htn : tn ≤ 60) (t9 : zF)  : zMi l yX1_firstWrong wsX1_firstWrong ({ frames := 2, cells := 0, slots := 0, locals := 43 } : Room) [.ref y2] G [(y2, .inr (1, [.ref tr])), (tr, .inr (2, [.ref tv, .int (nI tn)])), (tv, .inl (G.2.1 0, 60, .inl t9))] (fun (v : Int32) (u : Nat) => v = nI u ∧ feP t9 tn u) (fun _ => [(y2, .inr (1, [.ref tr])), (tr, .inr (2, [.ref tv, .int (nI tn)])), (tv, .inl (G.2.1 0, 60, .inl t9))]) sz 0 0 := by
  refine zMi_of (cc := cX1_firstWrong) (maxL := 3) (ret := (some .int)) (by decide) rfl (Nat.le_of_ble_eq_true rfl) ?_
  intro p e s m args below meth c A ls hx hb hr hml hts hown hlocks hnm hK hP hD hAe hS hA hl hsz
  have hown : s.vm.findClass RX1 = some m.cls := hown
  have hP : va_P G.1 vwCl [(y2, .inr (1, [.ref tr])), (tr, .inr (2, [.ref tv, .int (nI tn)])), (tv, .inl (G.2.1 0, 60, .inl t9))] s.heap := hP
  have hD : va_D A [(y2, .inr (1, [.ref tr])), (tr, .inr (2, [.ref tv, .int (nI tn)])), (tv, .inl (G.2.1 0, 60, .inl t9))] := hD
  have hl : lv_has ls 3 [(0, .ref y2)] := hl
  refine lv_iconst (v := 0) hx hb dX1_firstWrong_0 (by decide) ?_
  refine lv_istore_n (lv' := [(1, .int 0), (0, .ref y2)]) hx hb dX1_firstWrong_1 rfl hl (by decide) rfl (fun ls hl => ?_)
  refine lv_iconst (v := 0) hx hb dX1_firstWrong_2 (by decide) ?_
  refine lv_istore_n (lv' := [(2, .int 0), (1, .int 0), (0, .ref y2)]) hx hb dX1_firstWrong_3 rfl hl (by decide) rfl (fun ls hl => ?_)
  have loop : ∀ (n9 : Nat) (i : Nat), tn - i < n9 → (i ≤ tn) → (¬ psT t9 i = 9) → ∀ (H : Heap) (locs : List Loc) (ls : Array Slot), va_P G.1 vwCl [(y2, .inr (1, [.ref tr])), (tr, .inr (2, [.ref tv, .int (nI tn)])), (tv, .inl (G.2.1 0, 60, .inl t9))] H → va_D A [(y2, .inr (1, [.ref tr])), (tr, .inr (2, [.ref tv, .int (nI tn)])), (tv, .inl (G.2.1 0, 60, .inl t9))] → va_S A s.heap H locs → lv_has ls 3 [(0, .ref y2), (1, .int (nI (psT t9 i))), (2, .int (nI i))] → W p l e ({ frames := 2, cells := 0, slots := 0, locals := 43 } : Room) s m args below meth c H locs 0 0 (MQ below (zQi G (fun (v : Int32) (u : Nat) => v = nI u ∧ feP t9 tn u) (fun _ => [(y2, .inr (1, [.ref tr])), (tr, .inr (2, [.ref tv, .int (nI tn)])), (tv, .inl (G.2.1 0, 60, .inl t9))]) A) args s 0 0 A) (F0 m 4 ls []) := by
    intro n9
    induction n9 with
    | zero =>
      intro i hm9
      exact absurd hm9 (Nat.not_lt_zero _)
    | succ n9 ih =>
      intro i hm9 hi h9 H locs ls hP hD hS hl
      refine lv_iload_n hx hb dX1_firstWrong_4 rfl (lv_at hl 2 rfl) ?_
      refine lv_aload_n hx hb dX1_firstWrong_5 rfl (lv_at hl 0 rfl) ?_
      refine va_get (D := G.1) (ci := 1) (v := .ref tr) (C := RX1) (T := TX1) (N := 1) hx hb hts zi_X1_firstWrong_X1 hown hK.1 hP 0 rfl rfl 0 (by decide) (hts _ zw_X1_firstWrong_f14) (fun _ h9 => h9) rfl dX1_firstWrong_6 ?_
      refine va_getN (D := G.1) (ci := 2) (v := .int (nI tn)) (C := RX2) (T := TX2) (N := 2) hx hb hts zi_X1_firstWrong_X2 hown hK.1 hP 1 rfl rfl 1 (by decide) (zn_22 hK) (fun _ h9 => h9) rfl dX1_firstWrong_9 ?_
      refine lv_icmp_ge (tgt := 42) hx hb dX1_firstWrong_12 (by decide) (fun c_1 => ?_) (fun c_1 => ?_)
      · obtain rfl : i = tn := by have := (z_le (a := tn) (b := i) rfl rfl (by omega) (by omega)).mp c_1; omega
        refine lv_aload_n hx hb dX1_firstWrong_42 rfl (lv_at hl 0 rfl) ?_
        refine va_get (D := G.1) (ci := 1) (v := .ref tr) (C := RX1) (T := TX1) (N := 1) hx hb hts zi_X1_firstWrong_X1 hown hK.1 hP 0 rfl rfl 0 (by decide) (hts _ zw_X1_firstWrong_f14) (fun _ h9 => h9) rfl dX1_firstWrong_43 ?_
        refine va_getN (D := G.1) (ci := 2) (v := .int (nI i)) (C := RX2) (T := TX2) (N := 2) hx hb hts zi_X1_firstWrong_X2 hown hK.1 hP 1 rfl rfl 1 (by decide) (zn_22 hK) (fun _ h9 => h9) rfl dX1_firstWrong_46 ?_
        have hP9 := hP.sub (ws' := [(y2, .inr (1, [.ref tr])), (tr, .inr (2, [.ref tv, .int (nI i)])), (tv, .inl (G.2.1 0, 60, .inl t9))]) [0, 1, 2] rfl
        have hD9 := hD.sub (ws' := [(y2, .inr (1, [.ref tr])), (tr, .inr (2, [.ref tv, .int (nI i)])), (tv, .inl (G.2.1 0, 60, .inl t9))]) [0, 1, 2] (by decide) rfl
        exact z_iret hx hb hr rfl hlocks i hP9 hD9 hS (Nat.le_of_ble_eq_true rfl) (Nat.le_of_ble_eq_true rfl) dX1_firstWrong_49 ⟨rfl, h9, Or.inl rfl⟩
      · have hlt : i < tn := by have := mt (z_le (a := tn) (b := i) rfl rfl (by omega) (by omega)).mpr c_1; omega
        refine lv_iload_n hx hb dX1_firstWrong_15 rfl (lv_at hl 1 rfl) ?_
        refine lv_aload_n hx hb dX1_firstWrong_16 rfl (lv_at hl 0 rfl) ?_
        refine va_get (D := G.1) (ci := 1) (v := .ref tr) (C := RX1) (T := TX1) (N := 1) hx hb hts zi_X1_firstWrong_X1 hown hK.1 hP 0 rfl rfl 0 (by decide) (hts _ zw_X1_firstWrong_f14) (fun _ h9 => h9) rfl dX1_firstWrong_17 ?_
        refine lv_iload_n hx hb dX1_firstWrong_20 rfl (lv_at hl 2 rfl) ?_
        have hPc := hP.sub (ws' := [(tr, .inr (2, [.ref tv, .int (nI tn)])), (tv, .inl (G.2.1 0, 60, .inl t9))]) [1, 2] rfl
        have hDc := hD.sub (ws' := [(tr, .inr (2, [.ref tv, .int (nI tn)])), (tv, .inl (G.2.1 0, 60, .inl t9))]) [1, 2] (by decide) rfl
        refine z_calli (wr := [(y2, .inr (1, [.ref tr]))]) (va_runV (As := [.int (nI i)]) (rest := [.int (nI (psT t9 i))]) ⟨hx, hb, hml, hown, hts⟩ (c_X2_at l G H.size tr tv 60 i tn t9 (by omega) (by omega) (by omega)) (cwV 1 hts gX1_firstWrong_X2_at rfl rfl rfl (by decide +kernel) ⟨(Nat.le_of_ble_eq_true rfl), (Nat.le_of_ble_eq_true rfl)⟩) (zV (ci := 2) (q0 := 0) hK hPc hDc rfl rfl) rfl rfl hl.1 rfl (lv_room (Nat.le_of_ble_eq_true rfl)) dX1_firstWrong_21 ⟨(Nat.le_of_ble_eq_true rfl), (Nat.le_of_ble_eq_true rfl)⟩) hP hD hS hA [1, 2] [0] rfl rfl (by decide) (by decide) (fun r_2 u_2 H locs hw_2 hP hD hS => ?_)
        subst hw_2
        have hP : va_P G.1 vwCl [(y2, .inr (1, [.ref tr])), (tr, .inr (2, [.ref tv, .int (nI tn)])), (tv, .inl (G.2.1 0, 60, .inl t9))] H := hP
        have hD : va_D A [(y2, .inr (1, [.ref tr])), (tr, .inr (2, [.ref tv, .int (nI tn)])), (tv, .inl (G.2.1 0, 60, .inl t9))] := hD
        have hPc := hP.sub (ws' := []) [] rfl
        have hDc := hD.sub (ws' := []) [] (by decide) rfl
        refine z_calli (wr := [(y2, .inr (1, [.ref tr])), (tr, .inr (2, [.ref tv, .int (nI tn)])), (tv, .inl (G.2.1 0, 60, .inl t9))]) (va_runS (As := [.int (nI (psT t9 i)), .int (t9 i)]) (rest := []) ⟨hx, hb, hml, hown, hts⟩ (c_X1_placeAfter l G H.size (psT t9 i) (psT_le t9 i) (t9 i)) (va_cwS 2 hts gX1_firstWrong_X1_placeAfter rfl rfl rfl (by decide +kernel) ⟨(Nat.le_of_ble_eq_true rfl), (Nat.le_of_ble_eq_true rfl)⟩) (zS hK hPc hDc) rfl rfl hl.1 rfl (lv_room (Nat.le_of_ble_eq_true rfl)) dX1_firstWrong_24 ⟨(Nat.le_of_ble_eq_true rfl), (Nat.le_of_ble_eq_true rfl)⟩) hP hD hS hA [] [0, 1, 2] rfl rfl (by decide) (by decide) (fun r_3 u_3 H locs hw_3 hP hD hS => ?_)
        have hq_3 : r_3 = nI (psT t9 (i + 1)) := hw_3
        subst hq_3
        have hP : va_P G.1 vwCl [(y2, .inr (1, [.ref tr])), (tr, .inr (2, [.ref tv, .int (nI tn)])), (tv, .inl (G.2.1 0, 60, .inl t9))] H := hP
        have hD : va_D A [(y2, .inr (1, [.ref tr])), (tr, .inr (2, [.ref tv, .int (nI tn)])), (tv, .inl (G.2.1 0, 60, .inl t9))] := hD
        refine lv_istore_n (lv' := [(1, .int (nI (psT t9 (i + 1)))), (0, .ref y2), (2, .int (nI i))]) hx hb dX1_firstWrong_27 rfl hl (by decide) rfl (fun ls hl => ?_)
        refine lv_iload_n hx hb dX1_firstWrong_28 rfl (lv_at hl 0 rfl) ?_
        refine lv_bipush (v := 9) hx hb dX1_firstWrong_29 (by decide) ?_
        refine lv_icmp_ne (tgt := 36) hx hb dX1_firstWrong_31 (by decide) (fun c_4 => ?_) (fun c_4 => ?_)
        · refine lv_iinc (v := (nI (i + 1))) (lv' := [(2, .int (nI (i + 1))), (1, .int (nI (psT t9 (i + 1)))), (0, .ref y2)]) hx hb dX1_firstWrong_36 hl (k := 2) rfl (nI_1 i) (by decide) rfl (fun ls hl => ?_)
          refine lv_goto (tgt := 4) hx hb dX1_firstWrong_39 (by decide) ?_
          exact ih (i + 1) (by omega) (by omega) (fun z => c_4 (congrArg nI z)) _ _ _ (hP.sub [0, 1, 2] rfl) (hD.sub [0, 1, 2] (by decide) rfl) hS (lv_sub hl [2, 1, 0] rfl)
        · refine lv_iload_n hx hb dX1_firstWrong_34 rfl (lv_at hl 2 rfl) ?_
          have hP9 := hP.sub (ws' := [(y2, .inr (1, [.ref tr])), (tr, .inr (2, [.ref tv, .int (nI tn)])), (tv, .inl (G.2.1 0, 60, .inl t9))]) [0, 1, 2] rfl
          have hD9 := hD.sub (ws' := [(y2, .inr (1, [.ref tr])), (tr, .inr (2, [.ref tv, .int (nI tn)])), (tv, .inl (G.2.1 0, 60, .inl t9))]) [0, 1, 2] (by decide) rfl
          exact z_iret hx hb hr rfl hlocks i hP9 hD9 hS (Nat.le_of_ble_eq_true rfl) (Nat.le_of_ble_eq_true rfl) dX1_firstWrong_35 ⟨rfl, h9, Or.inr ⟨hlt, (nq9 (psT_le t9 _) (by decide)).mp c_4⟩⟩
  exact loop _ 0 (Nat.lt_succ_self _) (by omega) (show ¬ (0 : Nat) = 9 by decide) _ _ _ (hP.sub [0, 1, 2] rfl) (hD.sub [0, 1, 2] (by decide) rfl) hS (lv_sub hl [2, 1, 0] rfl)
theorem zw_X1_isComplete_f14 : Cond.fieldLink RX1 14 "LightReceiver$LightText" "signs" "LLightReceiver$Row;" ∈ wsX1_isComplete := by decide +kernel
theorem zi_X1_isComplete_X1 : ∀ w ∈ wsX10, w ∈ wsX1_isComplete := fun _ h => List.mem_cons_of_mem _ (List.mem_append_left _ (List.mem_append_right _ h))
theorem zi_X1_isComplete_X2 : ∀ w ∈ wsX20, w ∈ wsX1_isComplete := fun _ h => List.mem_cons_of_mem _ (List.mem_append_right _ h)
set_option maxHeartbeats 1000000 in
set_option maxRecDepth 100000 in
theorem c_X1_isComplete (l : Launch) (G : zG) (sz : Nat) (y2 tr tv tn : Nat) (htn : tn ≤ 60) (t9 : zF)  : zMi l yX1_isComplete wsX1_isComplete ({ frames := 2, cells := 0, slots := 0, locals := 43 } : Room) [.ref y2] G [(y2, .inr (1, [.ref tr])), (tr, .inr (2, [.ref tv, .int (nI tn)])), (tv, .inl (G.2.1 0, 60, .inl t9))] (fun (v : Int32) (_ : Unit) => v = if cmT t9 tn then 1 else 0) (fun _ => [(y2, .inr (1, [.ref tr])), (tr, .inr (2, [.ref tv, .int (nI tn)])), (tv, .inl (G.2.1 0, 60, .inl t9))]) sz 0 0 := by
  refine zMi_of (cc := cX1_isComplete) (maxL := 3) (ret := (some .boolean)) (by decide) rfl (Nat.le_of_ble_eq_true rfl) ?_
  intro p e s m args below meth c A ls hx hb hr hml hts hown hlocks hnm hK hP hD hAe hS hA hl hsz
  have hown : s.vm.findClass RX1 = some m.cls := hown
  have hP : va_P G.1 vwCl [(y2, .inr (1, [.ref tr])), (tr, .inr (2, [.ref tv, .int (nI tn)])), (tv, .inl (G.2.1 0, 60, .inl t9))] s.heap := hP
  have hD : va_D A [(y2, .inr (1, [.ref tr])), (tr, .inr (2, [.ref tv, .int (nI tn)])), (tv, .inl (G.2.1 0, 60, .inl t9))] := hD
  have hl : lv_has ls 3 [(0, .ref y2)] := hl
  refine lv_iconst (v := 0) hx hb dX1_isComplete_0 (by decide) ?_
  refine lv_istore_n (lv' := [(1, .int 0), (0, .ref y2)]) hx hb dX1_isComplete_1 rfl hl (by decide) rfl (fun ls hl => ?_)
  refine lv_iconst (v := 0) hx hb dX1_isComplete_2 (by decide) ?_
  refine lv_istore_n (lv' := [(2, .int 0), (1, .int 0), (0, .ref y2)]) hx hb dX1_isComplete_3 rfl hl (by decide) rfl (fun ls hl => ?_)
  have loop : ∀ (n9 : Nat) (i : Nat), tn - i < n9 → (i ≤ tn) → ∀ (H : Heap) (locs : List Loc) (ls : Array Slot), va_P G.1 vwCl [(y2, .inr (1, [.ref tr])), (tr, .inr (2, [.ref tv, .int (nI tn)])), (tv, .inl (G.2.1 0, 60, .inl t9))] H → va_D A [(y2, .inr (1, [.ref tr])), (tr, .inr (2, [.ref tv, .int (nI tn)])), (tv, .inl (G.2.1 0, 60, .inl t9))] → va_S A s.heap H locs → lv_has ls 3 [(0, .ref y2), (1, .int (nI (psT t9 i))), (2, .int (nI i))] → W p l e ({ frames := 2, cells := 0, slots := 0, locals := 43 } : Room) s m args below meth c H locs 0 0 (MQ below (zQi G (fun (v : Int32) (_ : Unit) => v = if cmT t9 tn then 1 else 0) (fun _ => [(y2, .inr (1, [.ref tr])), (tr, .inr (2, [.ref tv, .int (nI tn)])), (tv, .inl (G.2.1 0, 60, .inl t9))]) A) args s 0 0 A) (F0 m 4 ls []) := by
    intro n9
    induction n9 with
    | zero =>
      intro i hm9
      exact absurd hm9 (Nat.not_lt_zero _)
    | succ n9 ih =>
      intro i hm9 hi H locs ls hP hD hS hl
      refine lv_iload_n hx hb dX1_isComplete_4 rfl (lv_at hl 2 rfl) ?_
      refine lv_aload_n hx hb dX1_isComplete_5 rfl (lv_at hl 0 rfl) ?_
      refine va_get (D := G.1) (ci := 1) (v := .ref tr) (C := RX1) (T := TX1) (N := 1) hx hb hts zi_X1_isComplete_X1 hown hK.1 hP 0 rfl rfl 0 (by decide) (hts _ zw_X1_isComplete_f14) (fun _ h9 => h9) rfl dX1_isComplete_6 ?_
      refine va_getN (D := G.1) (ci := 2) (v := .int (nI tn)) (C := RX2) (T := TX2) (N := 2) hx hb hts zi_X1_isComplete_X2 hown hK.1 hP 1 rfl rfl 1 (by decide) (zn_22 hK) (fun _ h9 => h9) rfl dX1_isComplete_9 ?_
      refine lv_icmp_ge (tgt := 34) hx hb dX1_isComplete_12 (by decide) (fun c_1 => ?_) (fun c_1 => ?_)
      · obtain rfl : i = tn := by have := (z_le (a := tn) (b := i) rfl rfl (by omega) (by omega)).mp c_1; omega
        refine lv_iload_n hx hb dX1_isComplete_34 rfl (lv_at hl 1 rfl) ?_
        refine lv_bipush (v := 8) hx hb dX1_isComplete_35 (by decide) ?_
        refine lv_icmp_eq (tgt := 46) hx hb dX1_isComplete_37 (by decide) (fun c_2 => ?_) (fun c_2 => ?_)
        · refine lv_iconst (v := 1) hx hb dX1_isComplete_46 (by decide) ?_
          refine lv_goto (tgt := 51) hx hb dX1_isComplete_47 (by decide) ?_
          have hP9 := hP.sub (ws' := [(y2, .inr (1, [.ref tr])), (tr, .inr (2, [.ref tv, .int (nI i)])), (tv, .inl (G.2.1 0, 60, .inl t9))]) [0, 1, 2] rfl
          have hD9 := hD.sub (ws' := [(y2, .inr (1, [.ref tr])), (tr, .inr (2, [.ref tv, .int (nI i)])), (tv, .inl (G.2.1 0, 60, .inl t9))]) [0, 1, 2] (by decide) rfl
          exact z_iret hx hb hr rfl hlocks () hP9 hD9 hS (Nat.le_of_ble_eq_true rfl) (Nat.le_of_ble_eq_true rfl) dX1_isComplete_51 (if_pos (Or.inl ((nq9 (psT_le t9 _) (by decide)).mp c_2))).symm
        · refine lv_iload_n hx hb dX1_isComplete_40 rfl (lv_at hl 1 rfl) ?_
          refine lv_bipush (v := 6) hx hb dX1_isComplete_41 (by decide) ?_
          refine lv_icmp_ne (tgt := 50) hx hb dX1_isComplete_43 (by decide) (fun c_3 => ?_) (fun c_3 => ?_)
          · refine lv_iconst (v := 0) hx hb dX1_isComplete_50 (by decide) ?_
            have hP9 := hP.sub (ws' := [(y2, .inr (1, [.ref tr])), (tr, .inr (2, [.ref tv, .int (nI i)])), (tv, .inl (G.2.1 0, 60, .inl t9))]) [0, 1, 2] rfl
            have hD9 := hD.sub (ws' := [(y2, .inr (1, [.ref tr])), (tr, .inr (2, [.ref tv, .int (nI i)])), (tv, .inl (G.2.1 0, 60, .inl t9))]) [0, 1, 2] (by decide) rfl
            exact z_iret hx hb hr rfl hlocks () hP9 hD9 hS (Nat.le_of_ble_eq_true rfl) (Nat.le_of_ble_eq_true rfl) dX1_isComplete_51 (if_neg (fun z => z.elim (fun z => c_2 (congrArg nI z)) (fun z => c_3 (congrArg nI z)))).symm
          · refine lv_iconst (v := 1) hx hb dX1_isComplete_46 (by decide) ?_
            refine lv_goto (tgt := 51) hx hb dX1_isComplete_47 (by decide) ?_
            have hP9 := hP.sub (ws' := [(y2, .inr (1, [.ref tr])), (tr, .inr (2, [.ref tv, .int (nI i)])), (tv, .inl (G.2.1 0, 60, .inl t9))]) [0, 1, 2] rfl
            have hD9 := hD.sub (ws' := [(y2, .inr (1, [.ref tr])), (tr, .inr (2, [.ref tv, .int (nI i)])), (tv, .inl (G.2.1 0, 60, .inl t9))]) [0, 1, 2] (by decide) rfl
            exact z_iret hx hb hr rfl hlocks () hP9 hD9 hS (Nat.le_of_ble_eq_true rfl) (Nat.le_of_ble_eq_true rfl) dX1_isComplete_51 (if_pos (Or.inr ((nq9 (psT_le t9 _) (by decide)).mp c_3))).symm
      · have hlt : i < tn := by have := mt (z_le (a := tn) (b := i) rfl rfl (by omega) (by omega)).mpr c_1; omega
        refine lv_iload_n hx hb dX1_isComplete_15 rfl (lv_at hl 1 rfl) ?_
        refine lv_aload_n hx hb dX1_isComplete_16 rfl (lv_at hl 0 rfl) ?_
        refine va_get (D := G.1) (ci := 1) (v := .ref tr) (C := RX1) (T := TX1) (N := 1) hx hb hts zi_X1_isComplete_X1 hown hK.1 hP 0 rfl rfl 0 (by decide) (hts _ zw_X1_isComplete_f14) (fun _ h9 => h9) rfl dX1_isComplete_17 ?_
        refine lv_iload_n hx hb dX1_isComplete_20 rfl (lv_at hl 2 rfl) ?_
        have hPc := hP.sub (ws' := [(tr, .inr (2, [.ref tv, .int (nI tn)])), (tv, .inl (G.2.1 0, 60, .inl t9))]) [1, 2] rfl
        have hDc := hD.sub (ws' := [(tr, .inr (2, [.ref tv, .int (nI tn)])), (tv, .inl (G.2.1 0, 60, .inl t9))]) [1, 2] (by decide) rfl
        refine z_calli (wr := [(y2, .inr (1, [.ref tr]))]) (va_runV (As := [.int (nI i)]) (rest := [.int (nI (psT t9 i))]) ⟨hx, hb, hml, hown, hts⟩ (c_X2_at l G H.size tr tv 60 i tn t9 (by omega) (by omega) (by omega)) (cwV 1 hts gX1_isComplete_X2_at rfl rfl rfl (by decide +kernel) ⟨(Nat.le_of_ble_eq_true rfl), (Nat.le_of_ble_eq_true rfl)⟩) (zV (ci := 2) (q0 := 0) hK hPc hDc rfl rfl) rfl rfl hl.1 rfl (lv_room (Nat.le_of_ble_eq_true rfl)) dX1_isComplete_21 ⟨(Nat.le_of_ble_eq_true rfl), (Nat.le_of_ble_eq_true rfl)⟩) hP hD hS hA [1, 2] [0] rfl rfl (by decide) (by decide) (fun r_4 u_4 H locs hw_4 hP hD hS => ?_)
        subst hw_4
        have hP : va_P G.1 vwCl [(y2, .inr (1, [.ref tr])), (tr, .inr (2, [.ref tv, .int (nI tn)])), (tv, .inl (G.2.1 0, 60, .inl t9))] H := hP
        have hD : va_D A [(y2, .inr (1, [.ref tr])), (tr, .inr (2, [.ref tv, .int (nI tn)])), (tv, .inl (G.2.1 0, 60, .inl t9))] := hD
        have hPc := hP.sub (ws' := []) [] rfl
        have hDc := hD.sub (ws' := []) [] (by decide) rfl
        refine z_calli (wr := [(y2, .inr (1, [.ref tr])), (tr, .inr (2, [.ref tv, .int (nI tn)])), (tv, .inl (G.2.1 0, 60, .inl t9))]) (va_runS (As := [.int (nI (psT t9 i)), .int (t9 i)]) (rest := []) ⟨hx, hb, hml, hown, hts⟩ (c_X1_placeAfter l G H.size (psT t9 i) (psT_le t9 i) (t9 i)) (va_cwS 2 hts gX1_isComplete_X1_placeAfter rfl rfl rfl (by decide +kernel) ⟨(Nat.le_of_ble_eq_true rfl), (Nat.le_of_ble_eq_true rfl)⟩) (zS hK hPc hDc) rfl rfl hl.1 rfl (lv_room (Nat.le_of_ble_eq_true rfl)) dX1_isComplete_24 ⟨(Nat.le_of_ble_eq_true rfl), (Nat.le_of_ble_eq_true rfl)⟩) hP hD hS hA [] [0, 1, 2] rfl rfl (by decide) (by decide) (fun r_5 u_5 H locs hw_5 hP hD hS => ?_)
        have hq_5 : r_5 = nI (psT t9 (i + 1)) := hw_5
        subst hq_5
        have hP : va_P G.1 vwCl [(y2, .inr (1, [.ref tr])), (tr, .inr (2, [.ref tv, .int (nI tn)])), (tv, .inl (G.2.1 0, 60, .inl t9))] H := hP
        have hD : va_D A [(y2, .inr (1, [.ref tr])), (tr, .inr (2, [.ref tv, .int (nI tn)])), (tv, .inl (G.2.1 0, 60, .inl t9))] := hD
        refine lv_istore_n (lv' := [(1, .int (nI (psT t9 (i + 1)))), (0, .ref y2), (2, .int (nI i))]) hx hb dX1_isComplete_27 rfl hl (by decide) rfl (fun ls hl => ?_)
        refine lv_iinc (v := (nI (i + 1))) (lv' := [(2, .int (nI (i + 1))), (1, .int (nI (psT t9 (i + 1)))), (0, .ref y2)]) hx hb dX1_isComplete_28 hl (k := 2) rfl (nI_1 i) (by decide) rfl (fun ls hl => ?_)
        refine lv_goto (tgt := 4) hx hb dX1_isComplete_31 (by decide) ?_
        exact ih (i + 1) (by omega) (by omega) _ _ _ (hP.sub [0, 1, 2] rfl) (hD.sub [0, 1, 2] (by decide) rfl) hS (lv_sub hl [2, 1, 0] rfl)
  exact loop _ 0 (Nat.lt_succ_self _) (by omega) _ _ _ (hP.sub [0, 1, 2] rfl) (hD.sub [0, 1, 2] (by decide) rfl) hS (lv_sub hl [2, 1, 0] rfl)
theorem zw_X1_number_f14 : Cond.fieldLink RX1 14 "LightReceiver$LightText" "signs" "LLightReceiver$Row;" ∈ wsX1_number := by decide +kernel
theorem zi_X1_number_X1 : ∀ w ∈ wsX10, w ∈ wsX1_number := fun _ h => List.mem_cons_of_mem _ (List.mem_append_left _ (List.mem_append_right _ h))
set_option maxHeartbeats 1000000 in
set_option maxRecDepth 100000 in
theorem c_X1_number (l : Launch) (G : zG) (sz : Nat) (y2 tr tv tn : Nat) (htn : tn ≤ 60) (t9 : zF) (k0 kk : Nat) (hk0 : k0 + kk ≤ tn)  : zMi l yX1_number wsX1_number ({ frames := 1, cells := 0, slots := 0, locals := 21 } : Room) [.ref y2, .int (nI k0), .int (nI (k0 + kk))] G [(y2, .inr (1, [.ref tr])), (tr, .inr (2, [.ref tv, .int (nI tn)])), (tv, .inl (G.2.1 0, 60, .inl t9))] (fun (v : Int32) (_ : Unit) => v = nuT t9 k0 kk) (fun _ => [(y2, .inr (1, [.ref tr])), (tr, .inr (2, [.ref tv, .int (nI tn)])), (tv, .inl (G.2.1 0, 60, .inl t9))]) sz 0 0 := by
  refine zMi_of (cc := cX1_number) (maxL := 5) (ret := (some .int)) (by decide) rfl (Nat.le_of_ble_eq_true rfl) ?_
  intro p e s m args below meth c A ls hx hb hr hml hts hown hlocks hnm hK hP hD hAe hS hA hl hsz
  have hown : s.vm.findClass RX1 = some m.cls := hown
  have hP : va_P G.1 vwCl [(y2, .inr (1, [.ref tr])), (tr, .inr (2, [.ref tv, .int (nI tn)])), (tv, .inl (G.2.1 0, 60, .inl t9))] s.heap := hP
  have hD : va_D A [(y2, .inr (1, [.ref tr])), (tr, .inr (2, [.ref tv, .int (nI tn)])), (tv, .inl (G.2.1 0, 60, .inl t9))] := hD
  have hl : lv_has ls 5 [(0, .ref y2), (1, .int (nI k0)), (2, .int (nI (k0 + kk)))] := hl
  refine lv_iconst (v := 0) hx hb dX1_number_0 (by decide) ?_
  refine lv_istore_n (lv' := [(3, .int 0), (0, .ref y2), (1, .int (nI k0)), (2, .int (nI (k0 + kk)))]) hx hb dX1_number_1 rfl hl (by decide) rfl (fun ls hl => ?_)
  refine lv_iload_n hx hb dX1_number_2 rfl (lv_at hl 2 rfl) ?_
  refine lv_istore (lv' := [(4, .int (nI k0)), (3, .int 0), (0, .ref y2), (1, .int (nI k0)), (2, .int (nI (k0 + kk)))]) hx hb dX1_number_3 hl (by decide) rfl (fun ls hl => ?_)
  have loop : ∀ (n9 : Nat) (j : Nat), kk - j < n9 → (j ≤ kk) → ∀ (H : Heap) (locs : List Loc) (ls : Array Slot), va_P G.1 vwCl [(y2, .inr (1, [.ref tr])), (tr, .inr (2, [.ref tv, .int (nI tn)])), (tv, .inl (G.2.1 0, 60, .inl t9))] H → va_D A [(y2, .inr (1, [.ref tr])), (tr, .inr (2, [.ref tv, .int (nI tn)])), (tv, .inl (G.2.1 0, 60, .inl t9))] → va_S A s.heap H locs → lv_has ls 5 [(0, .ref y2), (1, .int (nI k0)), (2, .int (nI (k0 + kk))), (3, .int (nuT t9 k0 j)), (4, .int (nI (k0 + j)))] → W p l e ({ frames := 1, cells := 0, slots := 0, locals := 21 } : Room) s m args below meth c H locs 0 0 (MQ below (zQi G (fun (v : Int32) (_ : Unit) => v = nuT t9 k0 kk) (fun _ => [(y2, .inr (1, [.ref tr])), (tr, .inr (2, [.ref tv, .int (nI tn)])), (tv, .inl (G.2.1 0, 60, .inl t9))]) A) args s 0 0 A) (F0 m 5 ls []) := by
    intro n9
    induction n9 with
    | zero =>
      intro j hm9
      exact absurd hm9 (Nat.not_lt_zero _)
    | succ n9 ih =>
      intro j hm9 hj H locs ls hP hD hS hl
      refine lv_iload hx hb dX1_number_5 (lv_at hl 4 rfl) ?_
      refine lv_iload_n hx hb dX1_number_7 rfl (lv_at hl 2 rfl) ?_
      refine lv_icmp_ge (tgt := 35) hx hb dX1_number_8 (by decide) (fun c_1 => ?_) (fun c_1 => ?_)
      · obtain rfl : j = kk := by have := (z_le (a := k0 + kk) (b := k0 + j) rfl rfl (by omega) (by omega)).mp c_1; omega
        refine lv_iload_n hx hb dX1_number_35 rfl (lv_at hl 3 rfl) ?_
        have hP9 := hP.sub (ws' := [(y2, .inr (1, [.ref tr])), (tr, .inr (2, [.ref tv, .int (nI tn)])), (tv, .inl (G.2.1 0, 60, .inl t9))]) [0, 1, 2] rfl
        have hD9 := hD.sub (ws' := [(y2, .inr (1, [.ref tr])), (tr, .inr (2, [.ref tv, .int (nI tn)])), (tv, .inl (G.2.1 0, 60, .inl t9))]) [0, 1, 2] (by decide) rfl
        exact z_iret hx hb hr rfl hlocks () hP9 hD9 hS (Nat.le_of_ble_eq_true rfl) (Nat.le_of_ble_eq_true rfl) dX1_number_36 rfl
      · have hlt : j < kk := by have := mt (z_le (a := k0 + kk) (b := k0 + j) rfl rfl (by omega) (by omega)).mpr c_1; omega
        refine lv_bipush (v := 10) hx hb dX1_number_11 (by decide) ?_
        refine lv_iload_n hx hb dX1_number_13 rfl (lv_at hl 3 rfl) ?_
        refine lv_imul hx hb dX1_number_14 ?_
        refine lv_aload_n hx hb dX1_number_15 rfl (lv_at hl 0 rfl) ?_
        refine va_get (D := G.1) (ci := 1) (v := .ref tr) (C := RX1) (T := TX1) (N := 1) hx hb hts zi_X1_number_X1 hown hK.1 hP 0 rfl rfl 0 (by decide) (hts _ zw_X1_number_f14) (fun _ h9 => h9) rfl dX1_number_16 ?_
        refine lv_iload hx hb dX1_number_19 (lv_at hl 4 rfl) ?_
        have hPc := hP.sub (ws' := [(tr, .inr (2, [.ref tv, .int (nI tn)])), (tv, .inl (G.2.1 0, 60, .inl t9))]) [1, 2] rfl
        have hDc := hD.sub (ws' := [(tr, .inr (2, [.ref tv, .int (nI tn)])), (tv, .inl (G.2.1 0, 60, .inl t9))]) [1, 2] (by decide) rfl
        refine z_calli (wr := [(y2, .inr (1, [.ref tr]))]) (va_runV (As := [.int (nI (k0 + j))]) (rest := [.int (10 * nuT t9 k0 j)]) ⟨hx, hb, hml, hown, hts⟩ (c_X2_at l G H.size tr tv 60 (k0 + j) tn t9 (by omega) (by omega) (by omega)) (cwV 1 hts gX1_number_X2_at rfl rfl rfl (by decide +kernel) ⟨(Nat.le_of_ble_eq_true rfl), (Nat.le_of_ble_eq_true rfl)⟩) (zV (ci := 2) (q0 := 0) hK hPc hDc rfl rfl) rfl rfl hl.1 rfl (lv_room (Nat.le_of_ble_eq_true rfl)) dX1_number_21 ⟨(Nat.le_of_ble_eq_true rfl), (Nat.le_of_ble_eq_true rfl)⟩) hP hD hS hA [1, 2] [0] rfl rfl (by decide) (by decide) (fun r_2 u_2 H locs hw_2 hP hD hS => ?_)
        subst hw_2
        have hP : va_P G.1 vwCl [(y2, .inr (1, [.ref tr])), (tr, .inr (2, [.ref tv, .int (nI tn)])), (tv, .inl (G.2.1 0, 60, .inl t9))] H := hP
        have hD : va_D A [(y2, .inr (1, [.ref tr])), (tr, .inr (2, [.ref tv, .int (nI tn)])), (tv, .inl (G.2.1 0, 60, .inl t9))] := hD
        refine lv_iadd hx hb dX1_number_24 ?_
        refine lv_bipush (v := 48) hx hb dX1_number_25 (by decide) ?_
        refine lv_isub hx hb dX1_number_27 ?_
        refine lv_istore_n (lv' := [(3, .int (((10 * nuT t9 k0 j) + (t9 (k0 + j))) - 48)), (0, .ref y2), (1, .int (nI k0)), (2, .int (nI (k0 + kk))), (4, .int (nI (k0 + j)))]) hx hb dX1_number_28 rfl hl (by decide) rfl (fun ls hl => ?_)
        refine lv_iinc (v := (nI (k0 + j + 1))) (lv' := [(4, .int (nI (k0 + j + 1))), (3, .int (((10 * nuT t9 k0 j) + (t9 (k0 + j))) - 48)), (0, .ref y2), (1, .int (nI k0)), (2, .int (nI (k0 + kk)))]) hx hb dX1_number_29 hl (k := 4) rfl (nI_1 _) (by decide) rfl (fun ls hl => ?_)
        refine lv_goto (tgt := 5) hx hb dX1_number_32 (by decide) ?_
        exact ih (j + 1) (by omega) (by omega) _ _ _ (hP.sub [0, 1, 2] rfl) (hD.sub [0, 1, 2] (by decide) rfl) hS (lv_sub hl [2, 3, 4, 1, 0] rfl)
  exact loop _ 0 (Nat.lt_succ_self _) (by omega) _ _ _ (hP.sub [0, 1, 2] rfl) (hD.sub [0, 1, 2] (by decide) rfl) hS (lv_sub hl [2, 3, 4, 1, 0] rfl)
theorem zw_X5_firstError_f26 : Cond.fieldLink RX5 26 "LightReceiver" "text" "LLightReceiver$LightText;" ∈ wsX5_firstError := by decide +kernel
theorem zi_X5_firstError_X5 : ∀ w ∈ wsX50, w ∈ wsX5_firstError := fun _ h => List.mem_cons_of_mem _ (List.mem_append_left _ (List.mem_append_left _ (List.mem_append_right _ h)))
set_option maxHeartbeats 1000000 in
set_option maxRecDepth 100000 in
theorem c_X5_firstError (l : Launch) (G : zG) (sz : Nat) (a b : Nat → Nat) (x y1 : Nat) (y2 tr tv tn : Nat) (htn : tn ≤ 60) (t9 : zF)  : zMi l yX5_firstError wsX5_firstError ({ frames := 3, cells := 0, slots := 0, locals := 65 } : Room) [.ref x] G [(x, .inr (5, [.ref (a 0), .ref y1, .ref y2, .ref (b 0)])), (y2, .inr (1, [.ref tr])), (tr, .inr (2, [.ref tv, .int (nI tn)])), (tv, .inl (G.2.1 0, 60, .inl t9))] (fun (v : Int32) (u : Nat) => v = nI u ∧ feP t9 tn u) (fun _ => [(x, .inr (5, [.ref (a 0), .ref y1, .ref y2, .ref (b 0)])), (y2, .inr (1, [.ref tr])), (tr, .inr (2, [.ref tv, .int (nI tn)])), (tv, .inl (G.2.1 0, 60, .inl t9))]) sz 0 0 := by
  refine zMi_of (cc := cX5_firstError) (maxL := 1) (ret := (some .int)) (by decide) rfl (Nat.le_of_ble_eq_true rfl) ?_
  intro p e s m args below meth c A ls hx hb hr hml hts hown hlocks hnm hK hP hD hAe hS hA hl hsz
  have hown : s.vm.findClass RX5 = some m.cls := hown
  have hP : va_P G.1 vwCl [(x, .inr (5, [.ref (a 0), .ref y1, .ref y2, .ref (b 0)])), (y2, .inr (1, [.ref tr])), (tr, .inr (2, [.ref tv, .int (nI tn)])), (tv, .inl (G.2.1 0, 60, .inl t9))] s.heap := hP
  have hD : va_D A [(x, .inr (5, [.ref (a 0), .ref y1, .ref y2, .ref (b 0)])), (y2, .inr (1, [.ref tr])), (tr, .inr (2, [.ref tv, .int (nI tn)])), (tv, .inl (G.2.1 0, 60, .inl t9))] := hD
  have hl : lv_has ls 1 [(0, .ref x)] := hl
  refine lv_aload_n hx hb dX5_firstError_0 rfl (lv_at hl 0 rfl) ?_
  refine va_get (D := G.1) (ci := 5) (v := .ref y2) (C := RX5) (T := TX5) (N := 4) hx hb hts zi_X5_firstError_X5 hown hK.1 hP 0 rfl rfl 2 (by decide) (hts _ zw_X5_firstError_f26) (fun _ h9 => h9) rfl dX5_firstError_1 ?_
  have hPc := hP.sub (ws' := [(y2, .inr (1, [.ref tr])), (tr, .inr (2, [.ref tv, .int (nI tn)])), (tv, .inl (G.2.1 0, 60, .inl t9))]) [1, 2, 3] rfl
  have hDc := hD.sub (ws' := [(y2, .inr (1, [.ref tr])), (tr, .inr (2, [.ref tv, .int (nI tn)])), (tv, .inl (G.2.1 0, 60, .inl t9))]) [1, 2, 3] (by decide) rfl
  refine z_calli (wr := [(x, .inr (5, [.ref (a 0), .ref y1, .ref y2, .ref (b 0)]))]) (va_runV (As := []) (rest := []) ⟨hx, hb, hml, hown, hts⟩ (c_X1_firstWrong l G s.heap.size y2 tr tv tn htn t9) (cwV 0 hts gX5_firstError_X1_firstWrong rfl rfl rfl (by decide +kernel) ⟨(Nat.le_of_ble_eq_true rfl), (Nat.le_of_ble_eq_true rfl)⟩) (zV (ci := 1) (q0 := 0) hK hPc hDc rfl rfl) rfl rfl hl.1 rfl (lv_room (Nat.le_of_ble_eq_true rfl)) dX5_firstError_4 ⟨(Nat.le_of_ble_eq_true rfl), (Nat.le_of_ble_eq_true rfl)⟩) hP hD hS hA [1, 2, 3] [0] rfl rfl (by decide) (by decide) (fun r_1 u_1 H locs hw_1 hP hD hS => ?_)
  have hP : va_P G.1 vwCl [(x, .inr (5, [.ref (a 0), .ref y1, .ref y2, .ref (b 0)])), (y2, .inr (1, [.ref tr])), (tr, .inr (2, [.ref tv, .int (nI tn)])), (tv, .inl (G.2.1 0, 60, .inl t9))] H := hP
  have hD : va_D A [(x, .inr (5, [.ref (a 0), .ref y1, .ref y2, .ref (b 0)])), (y2, .inr (1, [.ref tr])), (tr, .inr (2, [.ref tv, .int (nI tn)])), (tv, .inl (G.2.1 0, 60, .inl t9))] := hD
  have hP9 := hP.sub (ws' := [(x, .inr (5, [.ref (a 0), .ref y1, .ref y2, .ref (b 0)])), (y2, .inr (1, [.ref tr])), (tr, .inr (2, [.ref tv, .int (nI tn)])), (tv, .inl (G.2.1 0, 60, .inl t9))]) [0, 1, 2, 3] rfl
  have hD9 := hD.sub (ws' := [(x, .inr (5, [.ref (a 0), .ref y1, .ref y2, .ref (b 0)])), (y2, .inr (1, [.ref tr])), (tr, .inr (2, [.ref tv, .int (nI tn)])), (tv, .inl (G.2.1 0, 60, .inl t9))]) [0, 1, 2, 3] (by decide) rfl
  exact z_iret hx hb hr rfl hlocks u_1 hP9 hD9 hS (Nat.le_of_ble_eq_true rfl) (Nat.le_of_ble_eq_true rfl) dX5_firstError_7 hw_1
end
