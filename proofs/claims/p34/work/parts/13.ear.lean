section
theorem zw_X0_sendFrame_ini_X5 : Cond.initialized RX5 ∈ wsX0_sendFrame := by decide +kernel
theorem zw_X0_sendFrame_sta_X5_wordOf : Cond.static yX5_wordOf ∈ wsX0_sendFrame := by decide +kernel
theorem zw_X0_sendFrame_f14 : Cond.fieldLink RX0 14 "LightReceiver$Ear" "sent" "LLightReceiver$Row;" ∈ wsX0_sendFrame := by decide +kernel
theorem zi_X0_sendFrame_X0 : ∀ w ∈ wsX00, w ∈ wsX0_sendFrame := fun _ h => List.mem_cons_of_mem _ (List.mem_append_left _ (List.mem_append_right _ h))
theorem zw_X0_sendFrame_sta_X5_bitOf : Cond.static yX5_bitOf ∈ wsX0_sendFrame := by decide +kernel
set_option maxHeartbeats 4000000 in
set_option maxRecDepth 100000 in
theorem c_X0_sendFrame (l : Launch) (G : zG) (sz : Nat) (ea sa ta sv : Nat) (h0 h1 h2 h3 : Int32) (sc : Nat) (sg : zF) (x y tt : Nat) (hx9 : x < 8) (hy9 : y < 16) (ht9 : tt < 2) : zMv l yX0_sendFrame wsX0_sendFrame ({ frames := 2, cells := 0, slots := 0, locals := 43 } : Room) [.ref ea, .int (nI x), .int (nI y), .int (nI tt)] G [(ea, .inr (0, [.ref sa, .ref ta, .int h0, .int h1, .int h2, .int h3])), (sa, .inr (2, [.ref sv, .int (nI sc)])), (sv, .inl (G.2.1 0, 30, .inl sg))] (fun (u : zF) => ∀ j, j < 21 → u j = frS (wd x y tt) j) (fun u => [(ea, .inr (0, [.ref sa, .ref ta, .int h0, .int h1, .int h2, .int h3])), (sa, .inr (2, [.ref sv, .int (nI 21)])), (sv, .inl (G.2.1 0, 30, .inl u))]) sz 0 0 := by
  refine zMv_of (cc := cX0_sendFrame) (maxL := 6) (ret := none) (by decide) rfl (Nat.le_of_ble_eq_true rfl) ?_
  intro p e s m args below meth c A ls hx hb hr hml hts hown hlocks hnm hK hP hD hAe hS hA hl hsz
  have hown : s.vm.findClass RX0 = some m.cls := hown
  have hP : va_P G.1 vwCl [(ea, .inr (0, [.ref sa, .ref ta, .int h0, .int h1, .int h2, .int h3])), (sa, .inr (2, [.ref sv, .int (nI sc)])), (sv, .inl (G.2.1 0, 30, .inl sg))] s.heap := hP
  have hD : va_D A [(ea, .inr (0, [.ref sa, .ref ta, .int h0, .int h1, .int h2, .int h3])), (sa, .inr (2, [.ref sv, .int (nI sc)])), (sv, .inl (G.2.1 0, 30, .inl sg))] := hD
  have hl : lv_has ls 6 [(0, .ref ea), (1, .int (nI x)), (2, .int (nI y)), (3, .int (nI tt))] := hl
  refine lv_iload_n hx hb dX0_sendFrame_0 rfl (lv_at hl 1 rfl) ?_
  refine lv_iload_n hx hb dX0_sendFrame_1 rfl (lv_at hl 2 rfl) ?_
  refine lv_iload_n hx hb dX0_sendFrame_2 rfl (lv_at hl 3 rfl) ?_
  have hPc := hP.sub (ws' := []) [] rfl
  have hDc := hD.sub (ws' := []) [] (by decide) rfl
  refine z_calli (wr := [(ea, .inr (0, [.ref sa, .ref ta, .int h0, .int h1, .int h2, .int h3])), (sa, .inr (2, [.ref sv, .int (nI sc)])), (sv, .inl (G.2.1 0, 30, .inl sg))]) (va_runSN (As := [.int (nI x), .int (nI y), .int (nI tt)]) (rest := []) ⟨hx, hb, hml, hown, hts⟩ (c_X5_wordOf l G s.heap.size x y tt hx9 hy9 ht9) ⟨va_cnB 3 hts gX0_sendFrame_X5_wordOf_n23 rfl rfl rfl (zm_3 hK) (hts _ zw_X0_sendFrame_ini_X5) (by decide +kernel) ⟨(Nat.le_of_ble_eq_true rfl), (Nat.le_of_ble_eq_true rfl)⟩, (hts _ zw_X0_sendFrame_sta_X5_wordOf), trivial⟩ (zS hK hPc hDc) rfl rfl hl.1 rfl (lv_room (Nat.le_of_ble_eq_true rfl)) dX0_sendFrame_3 ⟨(Nat.le_of_ble_eq_true rfl), (Nat.le_of_ble_eq_true rfl)⟩) hP hD hS hA [] [0, 1, 2] rfl rfl (by decide) (by decide) (fun r_1 u_1 H locs hw_1 hP hD hS => ?_)
  subst hw_1
  have hP : va_P G.1 vwCl [(ea, .inr (0, [.ref sa, .ref ta, .int h0, .int h1, .int h2, .int h3])), (sa, .inr (2, [.ref sv, .int (nI sc)])), (sv, .inl (G.2.1 0, 30, .inl sg))] H := hP
  have hD : va_D A [(ea, .inr (0, [.ref sa, .ref ta, .int h0, .int h1, .int h2, .int h3])), (sa, .inr (2, [.ref sv, .int (nI sc)])), (sv, .inl (G.2.1 0, 30, .inl sg))] := hD
  refine lv_istore (lv' := [(4, .int (nI (wd x y tt))), (0, .ref ea), (1, .int (nI x)), (2, .int (nI y)), (3, .int (nI tt))]) hx hb dX0_sendFrame_6 hl (by decide) rfl (fun ls hl => ?_)
  refine lv_aload_n hx hb dX0_sendFrame_8 rfl (lv_at hl 1 rfl) ?_
  refine va_get (D := G.1) (ci := 0) (v := .ref sa) (C := RX0) (T := TX0) (N := 6) hx hb hts zi_X0_sendFrame_X0 hown hK.1 hP 0 rfl rfl 0 (by decide) (hts _ zw_X0_sendFrame_f14) (fun _ h9 => h9) rfl dX0_sendFrame_9 ?_
  have hPc := hP.sub (ws' := [(sa, .inr (2, [.ref sv, .int (nI sc)])), (sv, .inl (G.2.1 0, 30, .inl sg))]) [1, 2] rfl
  have hDc := hD.sub (ws' := [(sa, .inr (2, [.ref sv, .int (nI sc)])), (sv, .inl (G.2.1 0, 30, .inl sg))]) [1, 2] (by decide) rfl
  refine z_callv (wr := [(ea, .inr (0, [.ref sa, .ref ta, .int h0, .int h1, .int h2, .int h3]))]) (va_runV (As := []) (rest := []) ⟨hx, hb, hml, hown, hts⟩ (c_X2_empty l G H.size sa sv 30 (nI sc) sg) (cwV 0 hts gX0_sendFrame_X2_empty rfl rfl rfl (by decide +kernel) ⟨(Nat.le_of_ble_eq_true rfl), (Nat.le_of_ble_eq_true rfl)⟩) (zV (ci := 2) (q0 := 0) hK hPc hDc rfl rfl) rfl rfl hl.1 rfl (lv_room (Nat.le_of_ble_eq_true rfl)) dX0_sendFrame_12 ⟨(Nat.le_of_ble_eq_true rfl), (Nat.le_of_ble_eq_true rfl)⟩) hP hD hS hA [1, 2] [0] rfl rfl (by decide) (by decide) (fun u_2 H locs hw_2 hP hD hS => ?_)
  have hP : va_P G.1 vwCl [(ea, .inr (0, [.ref sa, .ref ta, .int h0, .int h1, .int h2, .int h3])), (sa, .inr (2, [.ref sv, .int (nI 0)])), (sv, .inl (G.2.1 0, 30, .inl sg))] H := hP
  have hD : va_D A [(ea, .inr (0, [.ref sa, .ref ta, .int h0, .int h1, .int h2, .int h3])), (sa, .inr (2, [.ref sv, .int (nI 0)])), (sv, .inl (G.2.1 0, 30, .inl sg))] := hD
  refine lv_aload_n hx hb dX0_sendFrame_15 rfl (lv_at hl 1 rfl) ?_
  refine va_get (D := G.1) (ci := 0) (v := .ref sa) (C := RX0) (T := TX0) (N := 6) hx hb hts zi_X0_sendFrame_X0 hown hK.1 hP 0 rfl rfl 0 (by decide) (hts _ zw_X0_sendFrame_f14) (fun _ h9 => h9) rfl dX0_sendFrame_16 ?_
  refine lv_bipush (v := 16) hx hb dX0_sendFrame_19 (by decide) ?_
  have hPc := hP.sub (ws' := [(sa, .inr (2, [.ref sv, .int (nI 0)])), (sv, .inl (G.2.1 0, 30, .inl sg))]) [1, 2] rfl
  have hDc := hD.sub (ws' := [(sa, .inr (2, [.ref sv, .int (nI 0)])), (sv, .inl (G.2.1 0, 30, .inl sg))]) [1, 2] (by decide) rfl
  refine z_callv (wr := [(ea, .inr (0, [.ref sa, .ref ta, .int h0, .int h1, .int h2, .int h3]))]) (va_runV (As := [.int 16]) (rest := []) ⟨hx, hb, hml, hown, hts⟩ (c_X2_add l G H.size sa sv 30 0 sg (by omega) (by omega) 16) (cwV 1 hts gX0_sendFrame_X2_add rfl rfl rfl (by decide +kernel) ⟨(Nat.le_of_ble_eq_true rfl), (Nat.le_of_ble_eq_true rfl)⟩) (zV (ci := 2) (q0 := 0) hK hPc hDc rfl rfl) rfl rfl hl.1 rfl (lv_room (Nat.le_of_ble_eq_true rfl)) dX0_sendFrame_21 ⟨(Nat.le_of_ble_eq_true rfl), (Nat.le_of_ble_eq_true rfl)⟩) hP hD hS hA [1, 2] [0] rfl rfl (by decide) (by decide) (fun u_3 H locs hw_3 hP hD hS => ?_)
  have hP : va_P G.1 vwCl [(ea, .inr (0, [.ref sa, .ref ta, .int h0, .int h1, .int h2, .int h3])), (sa, .inr (2, [.ref sv, .int (nI 1)])), (sv, .inl (G.2.1 0, 30, .inl (upd sg 0 16)))] H := hP
  have hD : va_D A [(ea, .inr (0, [.ref sa, .ref ta, .int h0, .int h1, .int h2, .int h3])), (sa, .inr (2, [.ref sv, .int (nI 1)])), (sv, .inl (G.2.1 0, 30, .inl (upd sg 0 16)))] := hD
  refine lv_aload_n hx hb dX0_sendFrame_24 rfl (lv_at hl 1 rfl) ?_
  refine va_get (D := G.1) (ci := 0) (v := .ref sa) (C := RX0) (T := TX0) (N := 6) hx hb hts zi_X0_sendFrame_X0 hown hK.1 hP 0 rfl rfl 0 (by decide) (hts _ zw_X0_sendFrame_f14) (fun _ h9 => h9) rfl dX0_sendFrame_25 ?_
  refine lv_bipush (v := 8) hx hb dX0_sendFrame_28 (by decide) ?_
  have hPc := hP.sub (ws' := [(sa, .inr (2, [.ref sv, .int (nI 1)])), (sv, .inl (G.2.1 0, 30, .inl (upd sg 0 16)))]) [1, 2] rfl
  have hDc := hD.sub (ws' := [(sa, .inr (2, [.ref sv, .int (nI 1)])), (sv, .inl (G.2.1 0, 30, .inl (upd sg 0 16)))]) [1, 2] (by decide) rfl
  refine z_callv (wr := [(ea, .inr (0, [.ref sa, .ref ta, .int h0, .int h1, .int h2, .int h3]))]) (va_runV (As := [.int 8]) (rest := []) ⟨hx, hb, hml, hown, hts⟩ (c_X2_add l G H.size sa sv 30 1 (upd sg 0 16) (by omega) (by omega) 8) (cwV 1 hts gX0_sendFrame_X2_add rfl rfl rfl (by decide +kernel) ⟨(Nat.le_of_ble_eq_true rfl), (Nat.le_of_ble_eq_true rfl)⟩) (zV (ci := 2) (q0 := 0) hK hPc hDc rfl rfl) rfl rfl hl.1 rfl (lv_room (Nat.le_of_ble_eq_true rfl)) dX0_sendFrame_30 ⟨(Nat.le_of_ble_eq_true rfl), (Nat.le_of_ble_eq_true rfl)⟩) hP hD hS hA [1, 2] [0] rfl rfl (by decide) (by decide) (fun u_4 H locs hw_4 hP hD hS => ?_)
  have hP : va_P G.1 vwCl [(ea, .inr (0, [.ref sa, .ref ta, .int h0, .int h1, .int h2, .int h3])), (sa, .inr (2, [.ref sv, .int (nI 2)])), (sv, .inl (G.2.1 0, 30, .inl (upd (upd sg 0 16) 1 8)))] H := hP
  have hD : va_D A [(ea, .inr (0, [.ref sa, .ref ta, .int h0, .int h1, .int h2, .int h3])), (sa, .inr (2, [.ref sv, .int (nI 2)])), (sv, .inl (G.2.1 0, 30, .inl (upd (upd sg 0 16) 1 8)))] := hD
  refine lv_iconst (v := 0) hx hb dX0_sendFrame_33 (by decide) ?_
  refine lv_istore (lv' := [(5, .int 0), (4, .int (nI (wd x y tt))), (0, .ref ea), (1, .int (nI x)), (2, .int (nI y)), (3, .int (nI tt))]) hx hb dX0_sendFrame_34 hl (by decide) rfl (fun ls hl => ?_)
  have loop : ∀ (n9 : Nat) (k : Nat) (cc : Nat) (u : zF), 9 - k < n9 → (k ≤ 9) → (cc = 2 + 2 * k) → (∀ j, j < cc → u j = frS (wd x y tt) j) → ∀ (H : Heap) (locs : List Loc) (ls : Array Slot), va_P G.1 vwCl [(ea, .inr (0, [.ref sa, .ref ta, .int h0, .int h1, .int h2, .int h3])), (sa, .inr (2, [.ref sv, .int (nI cc)])), (sv, .inl (G.2.1 0, 30, .inl u))] H → va_D A [(ea, .inr (0, [.ref sa, .ref ta, .int h0, .int h1, .int h2, .int h3])), (sa, .inr (2, [.ref sv, .int (nI cc)])), (sv, .inl (G.2.1 0, 30, .inl u))] → va_S A s.heap H locs → lv_has ls 6 [(0, .ref ea), (1, .int (nI x)), (2, .int (nI y)), (3, .int (nI tt)), (4, .int (nI (wd x y tt))), (5, .int (nI k))] → W p l e ({ frames := 2, cells := 0, slots := 0, locals := 43 } : Room) s m args below meth c H locs 0 0 (MQ below (zQv G (fun (u : zF) => ∀ j, j < 21 → u j = frS (wd x y tt) j) (fun u => [(ea, .inr (0, [.ref sa, .ref ta, .int h0, .int h1, .int h2, .int h3])), (sa, .inr (2, [.ref sv, .int (nI 21)])), (sv, .inl (G.2.1 0, 30, .inl u))]) A) args s 0 0 A) (F0 m 36 ls []) := by
    intro n9
    induction n9 with
    | zero =>
      intro k cc u hm9
      exact absurd hm9 (Nat.not_lt_zero _)
    | succ n9 ih =>
      intro k cc u hm9 hk9 hcc hu H locs ls hP hD hS hl
      refine lv_iload hx hb dX0_sendFrame_36 (lv_at hl 5 rfl) ?_
      refine lv_bipush (v := 9) hx hb dX0_sendFrame_38 (by decide) ?_
      refine lv_icmp_ge (tgt := 81) hx hb dX0_sendFrame_40 (by decide) (fun c_5 => ?_) (fun c_5 => ?_)
      · obtain rfl : k = 9 := by have := (z_le (a := 9) rfl rfl (by omega) (by omega)).mp c_5; omega
        obtain rfl : cc = 20 := by omega
        refine lv_aload_n hx hb dX0_sendFrame_81 rfl (lv_at hl 0 rfl) ?_
        refine va_get (D := G.1) (ci := 0) (v := .ref sa) (C := RX0) (T := TX0) (N := 6) hx hb hts zi_X0_sendFrame_X0 hown hK.1 hP 0 rfl rfl 0 (by decide) (hts _ zw_X0_sendFrame_f14) (fun _ h9 => h9) rfl dX0_sendFrame_82 ?_
        refine lv_iconst (v := 4) hx hb dX0_sendFrame_85 (by decide) ?_
        have hPc := hP.sub (ws' := [(sa, .inr (2, [.ref sv, .int (nI 20)])), (sv, .inl (G.2.1 0, 30, .inl u))]) [1, 2] rfl
        have hDc := hD.sub (ws' := [(sa, .inr (2, [.ref sv, .int (nI 20)])), (sv, .inl (G.2.1 0, 30, .inl u))]) [1, 2] (by decide) rfl
        refine z_callv (wr := [(ea, .inr (0, [.ref sa, .ref ta, .int h0, .int h1, .int h2, .int h3]))]) (va_runV (As := [.int 4]) (rest := []) ⟨hx, hb, hml, hown, hts⟩ (c_X2_add l G H.size sa sv 30 20 u (by omega) (by omega) 4) (cwV 1 hts gX0_sendFrame_X2_add rfl rfl rfl (by decide +kernel) ⟨(Nat.le_of_ble_eq_true rfl), (Nat.le_of_ble_eq_true rfl)⟩) (zV (ci := 2) (q0 := 0) hK hPc hDc rfl rfl) rfl rfl hl.1 rfl (lv_room (Nat.le_of_ble_eq_true rfl)) dX0_sendFrame_86 ⟨(Nat.le_of_ble_eq_true rfl), (Nat.le_of_ble_eq_true rfl)⟩) hP hD hS hA [1, 2] [0] rfl rfl (by decide) (by decide) (fun u_6 H locs hw_6 hP hD hS => ?_)
        have hP : va_P G.1 vwCl [(ea, .inr (0, [.ref sa, .ref ta, .int h0, .int h1, .int h2, .int h3])), (sa, .inr (2, [.ref sv, .int (nI 21)])), (sv, .inl (G.2.1 0, 30, .inl (upd u 20 4)))] H := hP
        have hD : va_D A [(ea, .inr (0, [.ref sa, .ref ta, .int h0, .int h1, .int h2, .int h3])), (sa, .inr (2, [.ref sv, .int (nI 21)])), (sv, .inl (G.2.1 0, 30, .inl (upd u 20 4)))] := hD
        have hP9 := hP.sub (ws' := [(ea, .inr (0, [.ref sa, .ref ta, .int h0, .int h1, .int h2, .int h3])), (sa, .inr (2, [.ref sv, .int (nI 21)])), (sv, .inl (G.2.1 0, 30, .inl (upd u 20 4)))]) [0, 1, 2] rfl
        have hD9 := hD.sub (ws' := [(ea, .inr (0, [.ref sa, .ref ta, .int h0, .int h1, .int h2, .int h3])), (sa, .inr (2, [.ref sv, .int (nI 21)])), (sv, .inl (G.2.1 0, 30, .inl (upd u 20 4)))]) [0, 1, 2] (by decide) rfl
        exact z_vret hx hb hr hlocks (upd u 20 4) hP9 hD9 hS (Nat.le_of_ble_eq_true rfl) (Nat.le_of_ble_eq_true rfl) dX0_sendFrame_89 (fun j hj => if h : j = 20 then by subst h; rfl else (pk_un h).trans (hu j (by omega)))
      · have hk : k < 9 := by have := mt (z_le (a := 9) rfl rfl (by omega) (by omega)).mpr c_5; omega
        refine lv_aload_n hx hb dX0_sendFrame_43 rfl (lv_at hl 0 rfl) ?_
        refine va_get (D := G.1) (ci := 0) (v := .ref sa) (C := RX0) (T := TX0) (N := 6) hx hb hts zi_X0_sendFrame_X0 hown hK.1 hP 0 rfl rfl 0 (by decide) (hts _ zw_X0_sendFrame_f14) (fun _ h9 => h9) rfl dX0_sendFrame_44 ?_
        refine lv_iconst (v := 4) hx hb dX0_sendFrame_47 (by decide) ?_
        have hPc := hP.sub (ws' := [(sa, .inr (2, [.ref sv, .int (nI cc)])), (sv, .inl (G.2.1 0, 30, .inl u))]) [1, 2] rfl
        have hDc := hD.sub (ws' := [(sa, .inr (2, [.ref sv, .int (nI cc)])), (sv, .inl (G.2.1 0, 30, .inl u))]) [1, 2] (by decide) rfl
        refine z_callv (wr := [(ea, .inr (0, [.ref sa, .ref ta, .int h0, .int h1, .int h2, .int h3]))]) (va_runV (As := [.int 4]) (rest := []) ⟨hx, hb, hml, hown, hts⟩ (c_X2_add l G H.size sa sv 30 cc u (by omega) (by omega) 4) (cwV 1 hts gX0_sendFrame_X2_add rfl rfl rfl (by decide +kernel) ⟨(Nat.le_of_ble_eq_true rfl), (Nat.le_of_ble_eq_true rfl)⟩) (zV (ci := 2) (q0 := 0) hK hPc hDc rfl rfl) rfl rfl hl.1 rfl (lv_room (Nat.le_of_ble_eq_true rfl)) dX0_sendFrame_48 ⟨(Nat.le_of_ble_eq_true rfl), (Nat.le_of_ble_eq_true rfl)⟩) hP hD hS hA [1, 2] [0] rfl rfl (by decide) (by decide) (fun u_7 H locs hw_7 hP hD hS => ?_)
        have hP : va_P G.1 vwCl [(ea, .inr (0, [.ref sa, .ref ta, .int h0, .int h1, .int h2, .int h3])), (sa, .inr (2, [.ref sv, .int (nI (cc + 1))])), (sv, .inl (G.2.1 0, 30, .inl (upd u cc 4)))] H := hP
        have hD : va_D A [(ea, .inr (0, [.ref sa, .ref ta, .int h0, .int h1, .int h2, .int h3])), (sa, .inr (2, [.ref sv, .int (nI (cc + 1))])), (sv, .inl (G.2.1 0, 30, .inl (upd u cc 4)))] := hD
        refine lv_aload_n hx hb dX0_sendFrame_51 rfl (lv_at hl 0 rfl) ?_
        refine va_get (D := G.1) (ci := 0) (v := .ref sa) (C := RX0) (T := TX0) (N := 6) hx hb hts zi_X0_sendFrame_X0 hown hK.1 hP 0 rfl rfl 0 (by decide) (hts _ zw_X0_sendFrame_f14) (fun _ h9 => h9) rfl dX0_sendFrame_52 ?_
        refine lv_iload hx hb dX0_sendFrame_55 (lv_at hl 4 rfl) ?_
        refine lv_iload hx hb dX0_sendFrame_57 (lv_at hl 5 rfl) ?_
        have hPc := hP.sub (ws' := []) [] rfl
        have hDc := hD.sub (ws' := []) [] (by decide) rfl
        refine z_calli (wr := [(ea, .inr (0, [.ref sa, .ref ta, .int h0, .int h1, .int h2, .int h3])), (sa, .inr (2, [.ref sv, .int (nI (cc + 1))])), (sv, .inl (G.2.1 0, 30, .inl (upd u cc 4)))]) (va_runSN (As := [.int (nI (wd x y tt)), .int (nI k)]) (rest := [.ref sa]) ⟨hx, hb, hml, hown, hts⟩ (c_X5_bitOf l G H.size (wd x y tt) k (wd_lt hx9 hy9 ht9) (by omega)) ⟨va_cnB 2 hts gX0_sendFrame_X5_bitOf_n34 rfl rfl rfl (zm_4 hK) (hts _ zw_X0_sendFrame_ini_X5) (by decide +kernel) ⟨(Nat.le_of_ble_eq_true rfl), (Nat.le_of_ble_eq_true rfl)⟩, (hts _ zw_X0_sendFrame_sta_X5_bitOf), trivial⟩ (zS hK hPc hDc) rfl rfl hl.1 rfl (lv_room (Nat.le_of_ble_eq_true rfl)) dX0_sendFrame_59 ⟨(Nat.le_of_ble_eq_true rfl), (Nat.le_of_ble_eq_true rfl)⟩) hP hD hS hA [] [0, 1, 2] rfl rfl (by decide) (by decide) (fun r_8 u_8 H locs hw_8 hP hD hS => ?_)
        subst hw_8
        have hP : va_P G.1 vwCl [(ea, .inr (0, [.ref sa, .ref ta, .int h0, .int h1, .int h2, .int h3])), (sa, .inr (2, [.ref sv, .int (nI (cc + 1))])), (sv, .inl (G.2.1 0, 30, .inl (upd u cc 4)))] H := hP
        have hD : va_D A [(ea, .inr (0, [.ref sa, .ref ta, .int h0, .int h1, .int h2, .int h3])), (sa, .inr (2, [.ref sv, .int (nI (cc + 1))])), (sv, .inl (G.2.1 0, 30, .inl (upd u cc 4)))] := hD
        refine lv_iconst (v := 1) hx hb dX0_sendFrame_62 (by decide) ?_
        refine lv_icmp_ne (tgt := 71) hx hb dX0_sendFrame_63 (by decide) (fun c_9 => ?_) (fun c_9 => ?_)
        · refine lv_iconst (v := 4) hx hb dX0_sendFrame_71 (by decide) ?_
          have hPc := hP.sub (ws' := [(sa, .inr (2, [.ref sv, .int (nI (cc + 1))])), (sv, .inl (G.2.1 0, 30, .inl (upd u cc 4)))]) [1, 2] rfl
          have hDc := hD.sub (ws' := [(sa, .inr (2, [.ref sv, .int (nI (cc + 1))])), (sv, .inl (G.2.1 0, 30, .inl (upd u cc 4)))]) [1, 2] (by decide) rfl
          refine z_callv (wr := [(ea, .inr (0, [.ref sa, .ref ta, .int h0, .int h1, .int h2, .int h3]))]) (va_runV (As := [.int 4]) (rest := []) ⟨hx, hb, hml, hown, hts⟩ (c_X2_add l G H.size sa sv 30 (cc + 1) (upd u cc 4) (by omega) (by omega) 4) (cwV 1 hts gX0_sendFrame_X2_add rfl rfl rfl (by decide +kernel) ⟨(Nat.le_of_ble_eq_true rfl), (Nat.le_of_ble_eq_true rfl)⟩) (zV (ci := 2) (q0 := 0) hK hPc hDc rfl rfl) rfl rfl hl.1 rfl (lv_room (Nat.le_of_ble_eq_true rfl)) dX0_sendFrame_72 ⟨(Nat.le_of_ble_eq_true rfl), (Nat.le_of_ble_eq_true rfl)⟩) hP hD hS hA [1, 2] [0] rfl rfl (by decide) (by decide) (fun u_10 H locs hw_10 hP hD hS => ?_)
          have hP : va_P G.1 vwCl [(ea, .inr (0, [.ref sa, .ref ta, .int h0, .int h1, .int h2, .int h3])), (sa, .inr (2, [.ref sv, .int (nI ((cc + 1) + 1))])), (sv, .inl (G.2.1 0, 30, .inl (upd (upd u cc 4) (cc + 1) 4)))] H := hP
          have hD : va_D A [(ea, .inr (0, [.ref sa, .ref ta, .int h0, .int h1, .int h2, .int h3])), (sa, .inr (2, [.ref sv, .int (nI ((cc + 1) + 1))])), (sv, .inl (G.2.1 0, 30, .inl (upd (upd u cc 4) (cc + 1) 4)))] := hD
          refine lv_iinc (v := (nI (k + 1))) (lv' := [(5, .int (nI (k + 1))), (0, .ref ea), (1, .int (nI x)), (2, .int (nI y)), (3, .int (nI tt)), (4, .int (nI (wd x y tt)))]) hx hb dX0_sendFrame_75 hl (k := 5) rfl (nI_1 k) (by decide) rfl (fun ls hl => ?_)
          refine lv_goto (tgt := 36) hx hb dX0_sendFrame_78 (by decide) ?_
          exact ih (k + 1) (cc + 1 + 1) (upd (upd u cc 4) (cc + 1) 4) (by omega) (by omega) (by omega) (frS_add hcc hu (by rw [if_neg (fun z => c_9 (by rw [z]; rfl))]) (by omega)) _ _ _ (hP.sub [0, 1, 2] rfl) (hD.sub [0, 1, 2] (by decide) rfl) hS (lv_sub hl [1, 2, 3, 4, 5, 0] rfl)
        · refine lv_bipush (v := 12) hx hb dX0_sendFrame_66 (by decide) ?_
          refine lv_goto (tgt := 72) hx hb dX0_sendFrame_68 (by decide) ?_
          have hPc := hP.sub (ws' := [(sa, .inr (2, [.ref sv, .int (nI (cc + 1))])), (sv, .inl (G.2.1 0, 30, .inl (upd u cc 4)))]) [1, 2] rfl
          have hDc := hD.sub (ws' := [(sa, .inr (2, [.ref sv, .int (nI (cc + 1))])), (sv, .inl (G.2.1 0, 30, .inl (upd u cc 4)))]) [1, 2] (by decide) rfl
          refine z_callv (wr := [(ea, .inr (0, [.ref sa, .ref ta, .int h0, .int h1, .int h2, .int h3]))]) (va_runV (As := [.int 12]) (rest := []) ⟨hx, hb, hml, hown, hts⟩ (c_X2_add l G H.size sa sv 30 (cc + 1) (upd u cc 4) (by omega) (by omega) 12) (cwV 1 hts gX0_sendFrame_X2_add rfl rfl rfl (by decide +kernel) ⟨(Nat.le_of_ble_eq_true rfl), (Nat.le_of_ble_eq_true rfl)⟩) (zV (ci := 2) (q0 := 0) hK hPc hDc rfl rfl) rfl rfl hl.1 rfl (lv_room (Nat.le_of_ble_eq_true rfl)) dX0_sendFrame_72 ⟨(Nat.le_of_ble_eq_true rfl), (Nat.le_of_ble_eq_true rfl)⟩) hP hD hS hA [1, 2] [0] rfl rfl (by decide) (by decide) (fun u_11 H locs hw_11 hP hD hS => ?_)
          have hP : va_P G.1 vwCl [(ea, .inr (0, [.ref sa, .ref ta, .int h0, .int h1, .int h2, .int h3])), (sa, .inr (2, [.ref sv, .int (nI ((cc + 1) + 1))])), (sv, .inl (G.2.1 0, 30, .inl (upd (upd u cc 4) (cc + 1) 12)))] H := hP
          have hD : va_D A [(ea, .inr (0, [.ref sa, .ref ta, .int h0, .int h1, .int h2, .int h3])), (sa, .inr (2, [.ref sv, .int (nI ((cc + 1) + 1))])), (sv, .inl (G.2.1 0, 30, .inl (upd (upd u cc 4) (cc + 1) 12)))] := hD
          refine lv_iinc (v := (nI (k + 1))) (lv' := [(5, .int (nI (k + 1))), (0, .ref ea), (1, .int (nI x)), (2, .int (nI y)), (3, .int (nI tt)), (4, .int (nI (wd x y tt)))]) hx hb dX0_sendFrame_75 hl (k := 5) rfl (nI_1 k) (by decide) rfl (fun ls hl => ?_)
          refine lv_goto (tgt := 36) hx hb dX0_sendFrame_78 (by decide) ?_
          exact ih (k + 1) (cc + 1 + 1) (upd (upd u cc 4) (cc + 1) 12) (by omega) (by omega) (by omega) (frS_add hcc hu (by rw [if_pos ((z_eq (b := 1) rfl rfl (by omega) (by omega)).mp c_9)]) (by omega)) _ _ _ (hP.sub [0, 1, 2] rfl) (hD.sub [0, 1, 2] (by decide) rfl) hS (lv_sub hl [1, 2, 3, 4, 5, 0] rfl)
  exact loop _ 0 2 (upd (upd sg 0 16) 1 8) (Nat.lt_succ_self _) (by omega) rfl (fun j hj => by rcases (show j = 0 ∨ j = 1 by omega) with rfl | rfl <;> rfl) _ _ _ (hP.sub [0, 1, 2] rfl) (hD.sub [0, 1, 2] (by decide) rfl) hS (lv_sub hl [2, 3, 4, 5, 1, 0] rfl)
theorem zw_X0_sendRepeat_f14 : Cond.fieldLink RX0 14 "LightReceiver$Ear" "sent" "LLightReceiver$Row;" ∈ wsX0_sendRepeat := by decide +kernel
theorem zi_X0_sendRepeat_X0 : ∀ w ∈ wsX00, w ∈ wsX0_sendRepeat := fun _ h => List.mem_cons_of_mem _ (List.mem_append_left _ (List.mem_append_right _ h))
set_option maxHeartbeats 4000000 in
set_option maxRecDepth 100000 in
theorem c_X0_sendRepeat (l : Launch) (G : zG) (sz : Nat) (ea sa ta sv : Nat) (h0 h1 h2 h3 : Int32) (sc : Nat) (sg : zF) : zMv l yX0_sendRepeat wsX0_sendRepeat ({ frames := 1, cells := 0, slots := 0, locals := 21 } : Room) [.ref ea] G [(ea, .inr (0, [.ref sa, .ref ta, .int h0, .int h1, .int h2, .int h3])), (sa, .inr (2, [.ref sv, .int (nI sc)])), (sv, .inl (G.2.1 0, 30, .inl sg))] (fun (u : zF) => ∀ j, j < 3 → u j = rpS j) (fun u => [(ea, .inr (0, [.ref sa, .ref ta, .int h0, .int h1, .int h2, .int h3])), (sa, .inr (2, [.ref sv, .int (nI 3)])), (sv, .inl (G.2.1 0, 30, .inl u))]) sz 0 0 := by
  refine zMv_of (cc := cX0_sendRepeat) (maxL := 1) (ret := none) (by decide) rfl (Nat.le_of_ble_eq_true rfl) ?_
  intro p e s m args below meth c A ls hx hb hr hml hts hown hlocks hnm hK hP hD hAe hS hA hl hsz
  have hown : s.vm.findClass RX0 = some m.cls := hown
  have hP : va_P G.1 vwCl [(ea, .inr (0, [.ref sa, .ref ta, .int h0, .int h1, .int h2, .int h3])), (sa, .inr (2, [.ref sv, .int (nI sc)])), (sv, .inl (G.2.1 0, 30, .inl sg))] s.heap := hP
  have hD : va_D A [(ea, .inr (0, [.ref sa, .ref ta, .int h0, .int h1, .int h2, .int h3])), (sa, .inr (2, [.ref sv, .int (nI sc)])), (sv, .inl (G.2.1 0, 30, .inl sg))] := hD
  have hl : lv_has ls 1 [(0, .ref ea)] := hl
  refine lv_aload_n hx hb dX0_sendRepeat_0 rfl (lv_at hl 0 rfl) ?_
  refine va_get (D := G.1) (ci := 0) (v := .ref sa) (C := RX0) (T := TX0) (N := 6) hx hb hts zi_X0_sendRepeat_X0 hown hK.1 hP 0 rfl rfl 0 (by decide) (hts _ zw_X0_sendRepeat_f14) (fun _ h9 => h9) rfl dX0_sendRepeat_1 ?_
  have hPc := hP.sub (ws' := [(sa, .inr (2, [.ref sv, .int (nI sc)])), (sv, .inl (G.2.1 0, 30, .inl sg))]) [1, 2] rfl
  have hDc := hD.sub (ws' := [(sa, .inr (2, [.ref sv, .int (nI sc)])), (sv, .inl (G.2.1 0, 30, .inl sg))]) [1, 2] (by decide) rfl
  refine z_callv (wr := [(ea, .inr (0, [.ref sa, .ref ta, .int h0, .int h1, .int h2, .int h3]))]) (va_runV (As := []) (rest := []) ⟨hx, hb, hml, hown, hts⟩ (c_X2_empty l G s.heap.size sa sv 30 (nI sc) sg) (cwV 0 hts gX0_sendRepeat_X2_empty rfl rfl rfl (by decide +kernel) ⟨(Nat.le_of_ble_eq_true rfl), (Nat.le_of_ble_eq_true rfl)⟩) (zV (ci := 2) (q0 := 0) hK hPc hDc rfl rfl) rfl rfl hl.1 rfl (lv_room (Nat.le_of_ble_eq_true rfl)) dX0_sendRepeat_4 ⟨(Nat.le_of_ble_eq_true rfl), (Nat.le_of_ble_eq_true rfl)⟩) hP hD hS hA [1, 2] [0] rfl rfl (by decide) (by decide) (fun u_1 H locs hw_1 hP hD hS => ?_)
  have hP : va_P G.1 vwCl [(ea, .inr (0, [.ref sa, .ref ta, .int h0, .int h1, .int h2, .int h3])), (sa, .inr (2, [.ref sv, .int (nI 0)])), (sv, .inl (G.2.1 0, 30, .inl sg))] H := hP
  have hD : va_D A [(ea, .inr (0, [.ref sa, .ref ta, .int h0, .int h1, .int h2, .int h3])), (sa, .inr (2, [.ref sv, .int (nI 0)])), (sv, .inl (G.2.1 0, 30, .inl sg))] := hD
  refine lv_aload_n hx hb dX0_sendRepeat_7 rfl (lv_at hl 0 rfl) ?_
  refine va_get (D := G.1) (ci := 0) (v := .ref sa) (C := RX0) (T := TX0) (N := 6) hx hb hts zi_X0_sendRepeat_X0 hown hK.1 hP 0 rfl rfl 0 (by decide) (hts _ zw_X0_sendRepeat_f14) (fun _ h9 => h9) rfl dX0_sendRepeat_8 ?_
  refine lv_bipush (v := 16) hx hb dX0_sendRepeat_11 (by decide) ?_
  have hPc := hP.sub (ws' := [(sa, .inr (2, [.ref sv, .int (nI 0)])), (sv, .inl (G.2.1 0, 30, .inl sg))]) [1, 2] rfl
  have hDc := hD.sub (ws' := [(sa, .inr (2, [.ref sv, .int (nI 0)])), (sv, .inl (G.2.1 0, 30, .inl sg))]) [1, 2] (by decide) rfl
  refine z_callv (wr := [(ea, .inr (0, [.ref sa, .ref ta, .int h0, .int h1, .int h2, .int h3]))]) (va_runV (As := [.int 16]) (rest := []) ⟨hx, hb, hml, hown, hts⟩ (c_X2_add l G H.size sa sv 30 0 sg (by omega) (by omega) 16) (cwV 1 hts gX0_sendRepeat_X2_add rfl rfl rfl (by decide +kernel) ⟨(Nat.le_of_ble_eq_true rfl), (Nat.le_of_ble_eq_true rfl)⟩) (zV (ci := 2) (q0 := 0) hK hPc hDc rfl rfl) rfl rfl hl.1 rfl (lv_room (Nat.le_of_ble_eq_true rfl)) dX0_sendRepeat_13 ⟨(Nat.le_of_ble_eq_true rfl), (Nat.le_of_ble_eq_true rfl)⟩) hP hD hS hA [1, 2] [0] rfl rfl (by decide) (by decide) (fun u_2 H locs hw_2 hP hD hS => ?_)
  have hP : va_P G.1 vwCl [(ea, .inr (0, [.ref sa, .ref ta, .int h0, .int h1, .int h2, .int h3])), (sa, .inr (2, [.ref sv, .int (nI 1)])), (sv, .inl (G.2.1 0, 30, .inl (upd sg 0 16)))] H := hP
  have hD : va_D A [(ea, .inr (0, [.ref sa, .ref ta, .int h0, .int h1, .int h2, .int h3])), (sa, .inr (2, [.ref sv, .int (nI 1)])), (sv, .inl (G.2.1 0, 30, .inl (upd sg 0 16)))] := hD
  refine lv_aload_n hx hb dX0_sendRepeat_16 rfl (lv_at hl 0 rfl) ?_
  refine va_get (D := G.1) (ci := 0) (v := .ref sa) (C := RX0) (T := TX0) (N := 6) hx hb hts zi_X0_sendRepeat_X0 hown hK.1 hP 0 rfl rfl 0 (by decide) (hts _ zw_X0_sendRepeat_f14) (fun _ h9 => h9) rfl dX0_sendRepeat_17 ?_
  refine lv_iconst (v := 4) hx hb dX0_sendRepeat_20 (by decide) ?_
  have hPc := hP.sub (ws' := [(sa, .inr (2, [.ref sv, .int (nI 1)])), (sv, .inl (G.2.1 0, 30, .inl (upd sg 0 16)))]) [1, 2] rfl
  have hDc := hD.sub (ws' := [(sa, .inr (2, [.ref sv, .int (nI 1)])), (sv, .inl (G.2.1 0, 30, .inl (upd sg 0 16)))]) [1, 2] (by decide) rfl
  refine z_callv (wr := [(ea, .inr (0, [.ref sa, .ref ta, .int h0, .int h1, .int h2, .int h3]))]) (va_runV (As := [.int 4]) (rest := []) ⟨hx, hb, hml, hown, hts⟩ (c_X2_add l G H.size sa sv 30 1 (upd sg 0 16) (by omega) (by omega) 4) (cwV 1 hts gX0_sendRepeat_X2_add rfl rfl rfl (by decide +kernel) ⟨(Nat.le_of_ble_eq_true rfl), (Nat.le_of_ble_eq_true rfl)⟩) (zV (ci := 2) (q0 := 0) hK hPc hDc rfl rfl) rfl rfl hl.1 rfl (lv_room (Nat.le_of_ble_eq_true rfl)) dX0_sendRepeat_21 ⟨(Nat.le_of_ble_eq_true rfl), (Nat.le_of_ble_eq_true rfl)⟩) hP hD hS hA [1, 2] [0] rfl rfl (by decide) (by decide) (fun u_3 H locs hw_3 hP hD hS => ?_)
  have hP : va_P G.1 vwCl [(ea, .inr (0, [.ref sa, .ref ta, .int h0, .int h1, .int h2, .int h3])), (sa, .inr (2, [.ref sv, .int (nI 2)])), (sv, .inl (G.2.1 0, 30, .inl (upd (upd sg 0 16) 1 4)))] H := hP
  have hD : va_D A [(ea, .inr (0, [.ref sa, .ref ta, .int h0, .int h1, .int h2, .int h3])), (sa, .inr (2, [.ref sv, .int (nI 2)])), (sv, .inl (G.2.1 0, 30, .inl (upd (upd sg 0 16) 1 4)))] := hD
  refine lv_aload_n hx hb dX0_sendRepeat_24 rfl (lv_at hl 0 rfl) ?_
  refine va_get (D := G.1) (ci := 0) (v := .ref sa) (C := RX0) (T := TX0) (N := 6) hx hb hts zi_X0_sendRepeat_X0 hown hK.1 hP 0 rfl rfl 0 (by decide) (hts _ zw_X0_sendRepeat_f14) (fun _ h9 => h9) rfl dX0_sendRepeat_25 ?_
  refine lv_iconst (v := 4) hx hb dX0_sendRepeat_28 (by decide) ?_
  have hPc := hP.sub (ws' := [(sa, .inr (2, [.ref sv, .int (nI 2)])), (sv, .inl (G.2.1 0, 30, .inl (upd (upd sg 0 16) 1 4)))]) [1, 2] rfl
  have hDc := hD.sub (ws' := [(sa, .inr (2, [.ref sv, .int (nI 2)])), (sv, .inl (G.2.1 0, 30, .inl (upd (upd sg 0 16) 1 4)))]) [1, 2] (by decide) rfl
  refine z_callv (wr := [(ea, .inr (0, [.ref sa, .ref ta, .int h0, .int h1, .int h2, .int h3]))]) (va_runV (As := [.int 4]) (rest := []) ⟨hx, hb, hml, hown, hts⟩ (c_X2_add l G H.size sa sv 30 2 (upd (upd sg 0 16) 1 4) (by omega) (by omega) 4) (cwV 1 hts gX0_sendRepeat_X2_add rfl rfl rfl (by decide +kernel) ⟨(Nat.le_of_ble_eq_true rfl), (Nat.le_of_ble_eq_true rfl)⟩) (zV (ci := 2) (q0 := 0) hK hPc hDc rfl rfl) rfl rfl hl.1 rfl (lv_room (Nat.le_of_ble_eq_true rfl)) dX0_sendRepeat_29 ⟨(Nat.le_of_ble_eq_true rfl), (Nat.le_of_ble_eq_true rfl)⟩) hP hD hS hA [1, 2] [0] rfl rfl (by decide) (by decide) (fun u_4 H locs hw_4 hP hD hS => ?_)
  have hP : va_P G.1 vwCl [(ea, .inr (0, [.ref sa, .ref ta, .int h0, .int h1, .int h2, .int h3])), (sa, .inr (2, [.ref sv, .int (nI 3)])), (sv, .inl (G.2.1 0, 30, .inl (upd (upd (upd sg 0 16) 1 4) 2 4)))] H := hP
  have hD : va_D A [(ea, .inr (0, [.ref sa, .ref ta, .int h0, .int h1, .int h2, .int h3])), (sa, .inr (2, [.ref sv, .int (nI 3)])), (sv, .inl (G.2.1 0, 30, .inl (upd (upd (upd sg 0 16) 1 4) 2 4)))] := hD
  have hP9 := hP.sub (ws' := [(ea, .inr (0, [.ref sa, .ref ta, .int h0, .int h1, .int h2, .int h3])), (sa, .inr (2, [.ref sv, .int (nI 3)])), (sv, .inl (G.2.1 0, 30, .inl (upd (upd (upd sg 0 16) 1 4) 2 4)))]) [0, 1, 2] rfl
  have hD9 := hD.sub (ws' := [(ea, .inr (0, [.ref sa, .ref ta, .int h0, .int h1, .int h2, .int h3])), (sa, .inr (2, [.ref sv, .int (nI 3)])), (sv, .inl (G.2.1 0, 30, .inl (upd (upd (upd sg 0 16) 1 4) 2 4)))]) [0, 1, 2] (by decide) rfl
  exact z_vret hx hb hr hlocks (upd (upd (upd sg 0 16) 1 4) 2 4) hP9 hD9 hS (Nat.le_of_ble_eq_true rfl) (Nat.le_of_ble_eq_true rfl) dX0_sendRepeat_32 (fun j hj => by rcases (show j = 0 ∨ j = 1 ∨ j = 2 by omega) with rfl | rfl | rfl <;> rfl)
theorem zw_X0_sendRow_f14 : Cond.fieldLink RX0 14 "LightReceiver$Ear" "sent" "LLightReceiver$Row;" ∈ wsX0_sendRow := by decide +kernel
theorem zi_X0_sendRow_X0 : ∀ w ∈ wsX00, w ∈ wsX0_sendRow := fun _ h => List.mem_cons_of_mem _ (List.mem_append_left _ (List.mem_append_right _ h))
set_option maxHeartbeats 4000000 in
set_option maxRecDepth 100000 in
theorem c_X0_sendRow (l : Launch) (G : zG) (sz : Nat) (ea sa ta sv r v : Nat) (h0 h1 h2 h3 : Int32) (sc rc : Nat) (sg rg : zF) : zMv l yX0_sendRow wsX0_sendRow ({ frames := 2, cells := 0, slots := 0, locals := 81 } : Room) [.ref ea, .ref r] G [(ea, .inr (0, [.ref sa, .ref ta, .int h0, .int h1, .int h2, .int h3])), (sa, .inr (2, [.ref sv, .int (nI sc)])), (sv, .inl (G.2.1 0, 30, .inl sg)), (r, .inr (2, [.ref v, .int (nI rc)])), (v, .inl (G.2.1 0, 30, .inl rg))] (fun (_ : Unit) => True) (fun _ => [(ea, .inr (0, [.ref sa, .ref ta, .int h0, .int h1, .int h2, .int h3])), (sa, .inr (2, [.ref sv, .int (nI rc)])), (sv, .inl (G.2.1 0, 30, .inl rg)), (r, .inr (2, [.ref v, .int (nI rc)])), (v, .inl (G.2.1 0, 30, .inl rg))]) sz 0 0 := by
  refine zMv_of (cc := cX0_sendRow) (maxL := 2) (ret := none) (by decide) rfl (Nat.le_of_ble_eq_true rfl) ?_
  intro p e s m args below meth c A ls hx hb hr hml hts hown hlocks hnm hK hP hD hAe hS hA hl hsz
  have hown : s.vm.findClass RX0 = some m.cls := hown
  have hP : va_P G.1 vwCl [(ea, .inr (0, [.ref sa, .ref ta, .int h0, .int h1, .int h2, .int h3])), (sa, .inr (2, [.ref sv, .int (nI sc)])), (sv, .inl (G.2.1 0, 30, .inl sg)), (r, .inr (2, [.ref v, .int (nI rc)])), (v, .inl (G.2.1 0, 30, .inl rg))] s.heap := hP
  have hD : va_D A [(ea, .inr (0, [.ref sa, .ref ta, .int h0, .int h1, .int h2, .int h3])), (sa, .inr (2, [.ref sv, .int (nI sc)])), (sv, .inl (G.2.1 0, 30, .inl sg)), (r, .inr (2, [.ref v, .int (nI rc)])), (v, .inl (G.2.1 0, 30, .inl rg))] := hD
  have hl : lv_has ls 2 [(0, .ref ea), (1, .ref r)] := hl
  refine lv_aload_n hx hb dX0_sendRow_0 rfl (lv_at hl 0 rfl) ?_
  refine va_get (D := G.1) (ci := 0) (v := .ref sa) (C := RX0) (T := TX0) (N := 6) hx hb hts zi_X0_sendRow_X0 hown hK.1 hP 0 rfl rfl 0 (by decide) (hts _ zw_X0_sendRow_f14) (fun _ h9 => h9) rfl dX0_sendRow_1 ?_
  refine lv_aload_n hx hb dX0_sendRow_4 rfl (lv_at hl 1 rfl) ?_
  have hPc := hP.sub (ws' := [(sa, .inr (2, [.ref sv, .int (nI sc)])), (sv, .inl (G.2.1 0, 30, .inl sg)), (r, .inr (2, [.ref v, .int (nI rc)])), (v, .inl (G.2.1 0, 30, .inl rg))]) [1, 2, 3, 4] rfl
  have hDc := hD.sub (ws' := [(sa, .inr (2, [.ref sv, .int (nI sc)])), (sv, .inl (G.2.1 0, 30, .inl sg)), (r, .inr (2, [.ref v, .int (nI rc)])), (v, .inl (G.2.1 0, 30, .inl rg))]) [1, 2, 3, 4] (by decide) rfl
  refine z_callv (wr := [(ea, .inr (0, [.ref sa, .ref ta, .int h0, .int h1, .int h2, .int h3]))]) (va_runV (As := [.ref r]) (rest := []) ⟨hx, hb, hml, hown, hts⟩ (c_X2_become l G s.heap.size sa sv r v 30 (nI sc) (nI rc) sg rg (by omega)) (cwV 1 hts gX0_sendRow_X2_become rfl rfl rfl (by decide +kernel) ⟨(Nat.le_of_ble_eq_true rfl), (Nat.le_of_ble_eq_true rfl)⟩) (zV (ci := 2) (q0 := 0) hK hPc hDc rfl rfl) rfl rfl hl.1 rfl (lv_room (Nat.le_of_ble_eq_true rfl)) dX0_sendRow_5 ⟨(Nat.le_of_ble_eq_true rfl), (Nat.le_of_ble_eq_true rfl)⟩) hP hD hS hA [1, 2, 3, 4] [0] rfl rfl (by decide) (by decide) (fun u_1 H locs hw_1 hP hD hS => ?_)
  have hP : va_P G.1 vwCl [(ea, .inr (0, [.ref sa, .ref ta, .int h0, .int h1, .int h2, .int h3])), (sa, .inr (2, [.ref sv, .int (nI rc)])), (sv, .inl (G.2.1 0, 30, .inl rg)), (r, .inr (2, [.ref v, .int (nI rc)])), (v, .inl (G.2.1 0, 30, .inl rg))] H := hP
  have hD : va_D A [(ea, .inr (0, [.ref sa, .ref ta, .int h0, .int h1, .int h2, .int h3])), (sa, .inr (2, [.ref sv, .int (nI rc)])), (sv, .inl (G.2.1 0, 30, .inl rg)), (r, .inr (2, [.ref v, .int (nI rc)])), (v, .inl (G.2.1 0, 30, .inl rg))] := hD
  have hP9 := hP.sub (ws' := [(ea, .inr (0, [.ref sa, .ref ta, .int h0, .int h1, .int h2, .int h3])), (sa, .inr (2, [.ref sv, .int (nI rc)])), (sv, .inl (G.2.1 0, 30, .inl rg)), (r, .inr (2, [.ref v, .int (nI rc)])), (v, .inl (G.2.1 0, 30, .inl rg))]) [0, 1, 2, 3, 4] rfl
  have hD9 := hD.sub (ws' := [(ea, .inr (0, [.ref sa, .ref ta, .int h0, .int h1, .int h2, .int h3])), (sa, .inr (2, [.ref sv, .int (nI rc)])), (sv, .inl (G.2.1 0, 30, .inl rg)), (r, .inr (2, [.ref v, .int (nI rc)])), (v, .inl (G.2.1 0, 30, .inl rg))]) [0, 1, 2, 3, 4] (by decide) rfl
  exact z_vret hx hb hr hlocks () hP9 hD9 hS (Nat.le_of_ble_eq_true rfl) (Nat.le_of_ble_eq_true rfl) dX0_sendRow_8 trivial
theorem zw_X0_listen_ini_X5 : Cond.initialized RX5 ∈ wsX0_listen := by decide +kernel
theorem zw_X0_listen_sta_X5_weakestHeard : Cond.static yX5_weakestHeard ∈ wsX0_listen := by decide +kernel
theorem zw_X0_listen_f46 : Cond.fieldLink RX0 46 "LightReceiver$Ear" "missedAny" "Z" ∈ wsX0_listen := by decide +kernel
theorem zi_X0_listen_X0 : ∀ w ∈ wsX00, w ∈ wsX0_listen := fun _ h => List.mem_cons_of_mem _ (List.mem_append_left _ (List.mem_append_right _ h))
theorem zw_X0_listen_f20 : Cond.fieldLink RX0 20 "LightReceiver$Ear" "left" "LLightReceiver$Row;" ∈ wsX0_listen := by decide +kernel
theorem zw_X0_listen_f14 : Cond.fieldLink RX0 14 "LightReceiver$Ear" "sent" "LLightReceiver$Row;" ∈ wsX0_listen := by decide +kernel
theorem zi_X0_listen_X2 : ∀ w ∈ wsX20, w ∈ wsX0_listen := fun _ h => List.mem_cons_of_mem _ (List.mem_append_right _ h)
theorem zw_X0_listen_ml57 : Cond.methodLink RX0 57 Lib.Math.max.name ∈ wsX0_listen := by decide +kernel
theorem zw_X0_listen_stmax : Cond.static Lib.Math.max.name ∈ wsX0_listen := by decide +kernel
theorem zw_X0_listen_inm : Cond.initialized "java/lang/Math" ∈ wsX0_listen := by decide +kernel
theorem zw_X0_listen_comax : Cond.code Lib.Math.max.name Lib.Math.max.code 2 (some .int) ∈ wsX0_listen := by decide +kernel
set_option maxHeartbeats 4000000 in
set_option maxRecDepth 100000 in
theorem c_X0_listen (l : Launch) (G : zG) (sz : Nat) (ea sa ta sv tv : Nat) (h0 h1 h2 h3 : Int32) (sc tc : Nat) (hsc : sc ≤ 30) (sg tg : zF) (gl ga st : Int32) : zMv l yX0_listen wsX0_listen ({ frames := 1, cells := 0, slots := 0, locals := 21 } : Room) [.ref ea, .int gl, .int ga, .int st] G [(ea, .inr (0, [.ref sa, .ref ta, .int h0, .int h1, .int h2, .int h3])), (sa, .inr (2, [.ref sv, .int (nI sc)])), (sv, .inl (G.2.1 0, 30, .inl sg)), (ta, .inr (2, [.ref tv, .int (nI tc)])), (tv, .inl (G.2.1 0, 30, .inl tg))] (fun (u : zL) => u = lis sg (gl * ga / 20) (decide (st < 11 - ga)) tg sc) (fun u => [(ea, .inr (0, [.ref sa, .ref ta, .int u.2.1, .int h1, .int h2, .int h3])), (sa, .inr (2, [.ref sv, .int (nI sc)])), (sv, .inl (G.2.1 0, 30, .inl sg)), (ta, .inr (2, [.ref tv, .int (nI u.2.2.1)])), (tv, .inl (G.2.1 0, 30, .inl u.2.2.2))]) sz 0 0 := by
  refine zMv_of (cc := cX0_listen) (maxL := 9) (ret := none) (by decide) rfl (Nat.le_of_ble_eq_true rfl) ?_
  intro p e s m args below meth c A ls hx hb hr hml hts hown hlocks hnm hK hP hD hAe hS hA hl hsz
  have hown : s.vm.findClass RX0 = some m.cls := hown
  have hP : va_P G.1 vwCl [(ea, .inr (0, [.ref sa, .ref ta, .int h0, .int h1, .int h2, .int h3])), (sa, .inr (2, [.ref sv, .int (nI sc)])), (sv, .inl (G.2.1 0, 30, .inl sg)), (ta, .inr (2, [.ref tv, .int (nI tc)])), (tv, .inl (G.2.1 0, 30, .inl tg))] s.heap := hP
  have hD : va_D A [(ea, .inr (0, [.ref sa, .ref ta, .int h0, .int h1, .int h2, .int h3])), (sa, .inr (2, [.ref sv, .int (nI sc)])), (sv, .inl (G.2.1 0, 30, .inl sg)), (ta, .inr (2, [.ref tv, .int (nI tc)])), (tv, .inl (G.2.1 0, 30, .inl tg))] := hD
  have hl : lv_has ls 9 [(0, .ref ea), (1, .int gl), (2, .int ga), (3, .int st)] := hl
  refine lv_iload_n hx hb dX0_listen_0 rfl (lv_at hl 1 rfl) ?_
  refine lv_iload_n hx hb dX0_listen_1 rfl (lv_at hl 2 rfl) ?_
  refine lv_imul hx hb dX0_listen_2 ?_
  refine lv_bipush (v := 20) hx hb dX0_listen_3 (by decide) ?_
  refine lv_idiv hx hb dX0_listen_5 (by decide) ?_
  refine lv_topi (fun lo elo => ?_)
  refine lv_istore (lv' := [(4, .int lo), (0, .ref ea), (1, .int gl), (2, .int ga), (3, .int st)]) hx hb dX0_listen_6 hl (by decide) rfl (fun ls hl => ?_)
  refine lv_iload_n hx hb dX0_listen_8 rfl (lv_at hl 4 rfl) ?_
  refine lv_iload_n hx hb dX0_listen_9 rfl (lv_at hl 3 rfl) ?_
  have hPc := hP.sub (ws' := []) [] rfl
  have hDc := hD.sub (ws' := []) [] (by decide) rfl
  refine z_calli (wr := [(ea, .inr (0, [.ref sa, .ref ta, .int h0, .int h1, .int h2, .int h3])), (sa, .inr (2, [.ref sv, .int (nI sc)])), (sv, .inl (G.2.1 0, 30, .inl sg)), (ta, .inr (2, [.ref tv, .int (nI tc)])), (tv, .inl (G.2.1 0, 30, .inl tg))]) (va_runSN (As := [.int ga]) (rest := [.int st]) ⟨hx, hb, hml, hown, hts⟩ (c_X5_weakestHeard l G s.heap.size ga) ⟨va_cnB 1 hts gX0_listen_X5_weakestHeard_n42 rfl rfl rfl (zm_5 hK) (hts _ zw_X0_listen_ini_X5) (by decide +kernel) ⟨(Nat.le_of_ble_eq_true rfl), (Nat.le_of_ble_eq_true rfl)⟩, (hts _ zw_X0_listen_sta_X5_weakestHeard), trivial⟩ (zS hK hPc hDc) rfl rfl hl.1 rfl (lv_room (Nat.le_of_ble_eq_true rfl)) dX0_listen_10 ⟨(Nat.le_of_ble_eq_true rfl), (Nat.le_of_ble_eq_true rfl)⟩) hP hD hS hA [] [0, 1, 2, 3, 4] rfl rfl (by decide) (by decide) (fun r_1 u_1 H locs hw_1 hP hD hS => ?_)
  subst hw_1
  have hP : va_P G.1 vwCl [(ea, .inr (0, [.ref sa, .ref ta, .int h0, .int h1, .int h2, .int h3])), (sa, .inr (2, [.ref sv, .int (nI sc)])), (sv, .inl (G.2.1 0, 30, .inl sg)), (ta, .inr (2, [.ref tv, .int (nI tc)])), (tv, .inl (G.2.1 0, 30, .inl tg))] H := hP
  have hD : va_D A [(ea, .inr (0, [.ref sa, .ref ta, .int h0, .int h1, .int h2, .int h3])), (sa, .inr (2, [.ref sv, .int (nI sc)])), (sv, .inl (G.2.1 0, 30, .inl sg)), (ta, .inr (2, [.ref tv, .int (nI tc)])), (tv, .inl (G.2.1 0, 30, .inl tg))] := hD
  refine lv_icmp_ge (tgt := 20) hx hb dX0_listen_13 (by decide) (fun c_2 => ?_) (fun c_2 => ?_)
  · refine lv_iconst (v := 0) hx hb dX0_listen_20 (by decide) ?_
    refine lv_istore (lv' := [(5, .int 0), (4, .int lo), (0, .ref ea), (1, .int gl), (2, .int ga), (3, .int st)]) hx hb dX0_listen_21 hl (by decide) rfl (fun ls hl => ?_)
    refine lv_iconst (v := 0) hx hb dX0_listen_23 (by decide) ?_
    refine lv_istore (lv' := [(6, .int 0), (5, .int 0), (4, .int lo), (0, .ref ea), (1, .int gl), (2, .int ga), (3, .int st)]) hx hb dX0_listen_24 hl (by decide) rfl (fun ls hl => ?_)
    refine lv_aload_n hx hb dX0_listen_26 rfl (lv_at hl 3 rfl) ?_
    refine lv_iconst (v := 0) hx hb dX0_listen_27 (by decide) ?_
    refine va_put (D := G.1) (ci := 0) (v := .int 0) (ty := .boolean) (C := RX0) (T := TX0) (N := 6) hx hb hts zi_X0_listen_X0 tyX0 tyX0_ok nmX0 hown hK.1 hP hD hS 0 rfl rfl 2 (by decide) (hts _ zw_X0_listen_f46) (fun _ h9 => h9) rfl (by decide +kernel) rfl rfl (Nat.le_of_ble_eq_true rfl) dX0_listen_28 (fun H locs hP hD hS => ?_)
    have hP : va_P G.1 vwCl [(ea, .inr (0, [.ref sa, .ref ta, .int 0, .int h1, .int h2, .int h3])), (sa, .inr (2, [.ref sv, .int (nI sc)])), (sv, .inl (G.2.1 0, 30, .inl sg)), (ta, .inr (2, [.ref tv, .int (nI tc)])), (tv, .inl (G.2.1 0, 30, .inl tg))] H := hP
    have hD : va_D A [(ea, .inr (0, [.ref sa, .ref ta, .int 0, .int h1, .int h2, .int h3])), (sa, .inr (2, [.ref sv, .int (nI sc)])), (sv, .inl (G.2.1 0, 30, .inl sg)), (ta, .inr (2, [.ref tv, .int (nI tc)])), (tv, .inl (G.2.1 0, 30, .inl tg))] := hD
    refine lv_aload_n hx hb dX0_listen_31 rfl (lv_at hl 3 rfl) ?_
    refine va_get (D := G.1) (ci := 0) (v := .ref ta) (C := RX0) (T := TX0) (N := 6) hx hb hts zi_X0_listen_X0 hown hK.1 hP 0 rfl rfl 1 (by decide) (hts _ zw_X0_listen_f20) (fun _ h9 => h9) rfl dX0_listen_32 ?_
    have hPc := hP.sub (ws' := [(ta, .inr (2, [.ref tv, .int (nI tc)])), (tv, .inl (G.2.1 0, 30, .inl tg))]) [3, 4] rfl
    have hDc := hD.sub (ws' := [(ta, .inr (2, [.ref tv, .int (nI tc)])), (tv, .inl (G.2.1 0, 30, .inl tg))]) [3, 4] (by decide) rfl
    refine z_callv (wr := [(ea, .inr (0, [.ref sa, .ref ta, .int 0, .int h1, .int h2, .int h3])), (sa, .inr (2, [.ref sv, .int (nI sc)])), (sv, .inl (G.2.1 0, 30, .inl sg))]) (va_runV (As := []) (rest := []) ⟨hx, hb, hml, hown, hts⟩ (c_X2_empty l G H.size ta tv 30 (nI tc) tg) (cwV 0 hts gX0_listen_X2_empty rfl rfl rfl (by decide +kernel) ⟨(Nat.le_of_ble_eq_true rfl), (Nat.le_of_ble_eq_true rfl)⟩) (zV (ci := 2) (q0 := 0) hK hPc hDc rfl rfl) rfl rfl hl.1 rfl (lv_room (Nat.le_of_ble_eq_true rfl)) dX0_listen_35 ⟨(Nat.le_of_ble_eq_true rfl), (Nat.le_of_ble_eq_true rfl)⟩) hP hD hS hA [3, 4] [0, 1, 2] rfl rfl (by decide) (by decide) (fun u_3 H locs hw_3 hP hD hS => ?_)
    have hP : va_P G.1 vwCl [(ea, .inr (0, [.ref sa, .ref ta, .int 0, .int h1, .int h2, .int h3])), (sa, .inr (2, [.ref sv, .int (nI sc)])), (sv, .inl (G.2.1 0, 30, .inl sg)), (ta, .inr (2, [.ref tv, .int (nI 0)])), (tv, .inl (G.2.1 0, 30, .inl tg))] H := hP
    have hD : va_D A [(ea, .inr (0, [.ref sa, .ref ta, .int 0, .int h1, .int h2, .int h3])), (sa, .inr (2, [.ref sv, .int (nI sc)])), (sv, .inl (G.2.1 0, 30, .inl sg)), (ta, .inr (2, [.ref tv, .int (nI 0)])), (tv, .inl (G.2.1 0, 30, .inl tg))] := hD
    refine lv_iconst (v := 0) hx hb dX0_listen_38 (by decide) ?_
    refine lv_istore (lv' := [(7, .int 0), (6, .int 0), (5, .int 0), (4, .int lo), (0, .ref ea), (1, .int gl), (2, .int ga), (3, .int st)]) hx hb dX0_listen_39 hl (by decide) rfl (fun ls hl => ?_)
    have hwk : decide (st < 11 - ga) = false := decide_eq_false (Int32.not_lt.mpr c_2)
    have loop : ∀ (n9 : Nat) (i : Nat) (q : zL), sc - i < n9 → (i ≤ sc) → (q = lis sg lo false tg i) → ∀ (H : Heap) (locs : List Loc) (ls : Array Slot), va_P G.1 vwCl [(ea, .inr (0, [.ref sa, .ref ta, .int q.2.1, .int h1, .int h2, .int h3])), (sa, .inr (2, [.ref sv, .int (nI sc)])), (sv, .inl (G.2.1 0, 30, .inl sg)), (ta, .inr (2, [.ref tv, .int (nI q.2.2.1)])), (tv, .inl (G.2.1 0, 30, .inl q.2.2.2))] H → va_D A [(ea, .inr (0, [.ref sa, .ref ta, .int q.2.1, .int h1, .int h2, .int h3])), (sa, .inr (2, [.ref sv, .int (nI sc)])), (sv, .inl (G.2.1 0, 30, .inl sg)), (ta, .inr (2, [.ref tv, .int (nI q.2.2.1)])), (tv, .inl (G.2.1 0, 30, .inl q.2.2.2))] → va_S A s.heap H locs → lv_has ls 9 [(0, .ref ea), (1, .int gl), (2, .int ga), (3, .int st), (4, .int lo), (5, .int 0), (6, .int q.1), (7, .int (nI i))] → W p l e ({ frames := 1, cells := 0, slots := 0, locals := 21 } : Room) s m args below meth c H locs 0 0 (MQ below (zQv G (fun (u : zL) => u = lis sg (gl * ga / 20) (decide (st < 11 - ga)) tg sc) (fun u => [(ea, .inr (0, [.ref sa, .ref ta, .int u.2.1, .int h1, .int h2, .int h3])), (sa, .inr (2, [.ref sv, .int (nI sc)])), (sv, .inl (G.2.1 0, 30, .inl sg)), (ta, .inr (2, [.ref tv, .int (nI u.2.2.1)])), (tv, .inl (G.2.1 0, 30, .inl u.2.2.2))]) A) args s 0 0 A) (F0 m 41 ls []) := by
      intro n9
      induction n9 with
      | zero =>
        intro i q hm9
        exact absurd hm9 (Nat.not_lt_zero _)
      | succ n9 ih =>
        intro i q hm9 hi hq H locs ls hP hD hS hl
        refine lv_iload hx hb dX0_listen_41 (lv_at hl 7 rfl) ?_
        refine lv_aload_n hx hb dX0_listen_43 rfl (lv_at hl 0 rfl) ?_
        refine va_get (D := G.1) (ci := 0) (v := .ref sa) (C := RX0) (T := TX0) (N := 6) hx hb hts zi_X0_listen_X0 hown hK.1 hP 0 rfl rfl 0 (by decide) (hts _ zw_X0_listen_f14) (fun _ h9 => h9) rfl dX0_listen_44 ?_
        refine va_getN (D := G.1) (ci := 2) (v := .int (nI sc)) (C := RX2) (T := TX2) (N := 2) hx hb hts zi_X0_listen_X2 hown hK.1 hP 1 rfl rfl 1 (by decide) (zn_21 hK) (fun _ h9 => h9) rfl dX0_listen_47 ?_
        refine lv_icmp_ge (tgt := 162) hx hb dX0_listen_50 (by decide) (fun c_4 => ?_) (fun c_4 => ?_)
        · obtain rfl : i = sc := by have := (z_le rfl rfl (by omega) (by omega)).mp c_4; omega
          have hP9 := hP.sub (ws' := [(ea, .inr (0, [.ref sa, .ref ta, .int q.2.1, .int h1, .int h2, .int h3])), (sa, .inr (2, [.ref sv, .int (nI i)])), (sv, .inl (G.2.1 0, 30, .inl sg)), (ta, .inr (2, [.ref tv, .int (nI q.2.2.1)])), (tv, .inl (G.2.1 0, 30, .inl q.2.2.2))]) [0, 1, 2, 3, 4] rfl
          have hD9 := hD.sub (ws' := [(ea, .inr (0, [.ref sa, .ref ta, .int q.2.1, .int h1, .int h2, .int h3])), (sa, .inr (2, [.ref sv, .int (nI i)])), (sv, .inl (G.2.1 0, 30, .inl sg)), (ta, .inr (2, [.ref tv, .int (nI q.2.2.1)])), (tv, .inl (G.2.1 0, 30, .inl q.2.2.2))]) [0, 1, 2, 3, 4] (by decide) rfl
          exact z_vret hx hb hr hlocks q hP9 hD9 hS (Nat.le_of_ble_eq_true rfl) (Nat.le_of_ble_eq_true rfl) dX0_listen_162 (by rw [hwk, ← elo]; exact hq)
        · have hlt : i < sc := by have := mt (z_le rfl rfl (by omega) (by omega)).mpr c_4; omega
          have hkp := lis_kept sg lo false tg i
          rw [← hq] at hkp
          refine lv_iload hx hb dX0_listen_53 (lv_at hl 7 rfl) ?_
          refine lv_iconst (v := 2) hx hb dX0_listen_55 (by decide) ?_
          refine lv_irem hx hb dX0_listen_56 (by decide) ?_
          refine z_top (pk_rem (a := i) (d := 2) (by omega) (by omega) (by omega)) ?_
          refine lv_iconst (v := 1) hx hb dX0_listen_57 (by decide) ?_
          refine lv_icmp_ne (tgt := 81) hx hb dX0_listen_58 (by decide) (fun c_5 => ?_) (fun c_5 => ?_)
          · have hev : i % 2 = 0 := by have := mt (z_eq (a := i % 2) (b := 1) rfl rfl (by omega) (by omega)).mpr c_5; omega
            refine lv_aload_n hx hb dX0_listen_81 rfl (lv_at hl 0 rfl) ?_
            refine va_get (D := G.1) (ci := 0) (v := .ref sa) (C := RX0) (T := TX0) (N := 6) hx hb hts zi_X0_listen_X0 hown hK.1 hP 0 rfl rfl 0 (by decide) (hts _ zw_X0_listen_f14) (fun _ h9 => h9) rfl dX0_listen_82 ?_
            refine lv_iload hx hb dX0_listen_85 (lv_at hl 7 rfl) ?_
            have hPc := hP.sub (ws' := [(sa, .inr (2, [.ref sv, .int (nI sc)])), (sv, .inl (G.2.1 0, 30, .inl sg))]) [1, 2] rfl
            have hDc := hD.sub (ws' := [(sa, .inr (2, [.ref sv, .int (nI sc)])), (sv, .inl (G.2.1 0, 30, .inl sg))]) [1, 2] (by decide) rfl
            refine z_calli (wr := [(ea, .inr (0, [.ref sa, .ref ta, .int q.2.1, .int h1, .int h2, .int h3])), (ta, .inr (2, [.ref tv, .int (nI q.2.2.1)])), (tv, .inl (G.2.1 0, 30, .inl q.2.2.2))]) (va_runV (As := [.int (nI i)]) (rest := []) ⟨hx, hb, hml, hown, hts⟩ (c_X2_at l G H.size sa sv 30 i sc sg (by omega) (by omega) (by omega)) (cwV 1 hts gX0_listen_X2_at rfl rfl rfl (by decide +kernel) ⟨(Nat.le_of_ble_eq_true rfl), (Nat.le_of_ble_eq_true rfl)⟩) (zV (ci := 2) (q0 := 0) hK hPc hDc rfl rfl) rfl rfl hl.1 rfl (lv_room (Nat.le_of_ble_eq_true rfl)) dX0_listen_87 ⟨(Nat.le_of_ble_eq_true rfl), (Nat.le_of_ble_eq_true rfl)⟩) hP hD hS hA [1, 2] [0, 3, 4] rfl rfl (by decide) (by decide) (fun r_6 u_6 H locs hw_6 hP hD hS => ?_)
            subst hw_6
            have hP : va_P G.1 vwCl [(ea, .inr (0, [.ref sa, .ref ta, .int q.2.1, .int h1, .int h2, .int h3])), (ta, .inr (2, [.ref tv, .int (nI q.2.2.1)])), (tv, .inl (G.2.1 0, 30, .inl q.2.2.2)), (sa, .inr (2, [.ref sv, .int (nI sc)])), (sv, .inl (G.2.1 0, 30, .inl sg))] H := hP
            have hD : va_D A [(ea, .inr (0, [.ref sa, .ref ta, .int q.2.1, .int h1, .int h2, .int h3])), (ta, .inr (2, [.ref tv, .int (nI q.2.2.1)])), (tv, .inl (G.2.1 0, 30, .inl q.2.2.2)), (sa, .inr (2, [.ref sv, .int (nI sc)])), (sv, .inl (G.2.1 0, 30, .inl sg))] := hD
            refine lv_iload hx hb dX0_listen_90 (lv_at hl 4 rfl) ?_
            refine lv_isub hx hb dX0_listen_92 ?_
            refine lv_iconst (v := 0) hx hb dX0_listen_93 (by decide) ?_
            refine va_mmax (x := ((sg i) - lo)) (y := 0) hx hb (hml.trans hl.1.symm) hown (hts _ zw_X0_listen_ml57) (hts _ zw_X0_listen_stmax) (hts _ zw_X0_listen_inm) (hts _ zw_X0_listen_comax) (Nat.le_of_ble_eq_true rfl) (Nat.le_of_ble_eq_true rfl) (Nat.le_of_ble_eq_true rfl) (Nat.le_of_ble_eq_true rfl) dX0_listen_94 ?_
            refine lv_topi (fun bu ebu => ?_)
            refine lv_istore (lv' := [(8, .int bu), (0, .ref ea), (1, .int gl), (2, .int ga), (3, .int st), (4, .int lo), (5, .int 0), (6, .int q.1), (7, .int (nI i))]) hx hb dX0_listen_97 hl (by decide) rfl (fun ls hl => ?_)
            refine lv_iload hx hb dX0_listen_99 (lv_at hl 6 rfl) ?_
            refine lv_if_ne (tgt := 110) hx hb dX0_listen_101 (by decide) (fun c_7 => ?_) (fun c_7 => ?_)
            · exact absurd rfl c_7
            · refine lv_iload hx hb dX0_listen_104 (lv_at hl 0 rfl) ?_
              refine lv_iconst (v := 2) hx hb dX0_listen_106 (by decide) ?_
              refine lv_icmp_ge (tgt := 125) hx hb dX0_listen_107 (by decide) (fun c_8 => ?_) (fun c_8 => ?_)
              · refine lv_aload_n hx hb dX0_listen_125 rfl (lv_at hl 1 rfl) ?_
                refine va_get (D := G.1) (ci := 0) (v := .ref ta) (C := RX0) (T := TX0) (N := 6) hx hb hts zi_X0_listen_X0 hown hK.1 hP 0 rfl rfl 1 (by decide) (hts _ zw_X0_listen_f20) (fun _ h9 => h9) rfl dX0_listen_126 ?_
                refine va_getN (D := G.1) (ci := 2) (v := .int (nI q.2.2.1)) (C := RX2) (T := TX2) (N := 2) hx hb hts zi_X0_listen_X2 hown hK.1 hP 1 rfl rfl 1 (by decide) (zn_21 hK) (fun _ h9 => h9) rfl dX0_listen_129 ?_
                refine lv_if_le (tgt := 144) hx hb dX0_listen_132 (by decide) (fun c_9 => ?_) (fun c_9 => ?_)
                · have hk0 : q.2.2.1 = 0 := by have := (z_le (b := 0) rfl rfl (by omega) (by omega)).mp c_9; omega
                  refine lv_aload_n hx hb dX0_listen_144 rfl (lv_at hl 1 rfl) ?_
                  refine va_get (D := G.1) (ci := 0) (v := .ref ta) (C := RX0) (T := TX0) (N := 6) hx hb hts zi_X0_listen_X0 hown hK.1 hP 0 rfl rfl 1 (by decide) (hts _ zw_X0_listen_f20) (fun _ h9 => h9) rfl dX0_listen_145 ?_
                  refine lv_iload hx hb dX0_listen_148 (lv_at hl 0 rfl) ?_
                  have hPc := hP.sub (ws' := [(ta, .inr (2, [.ref tv, .int (nI q.2.2.1)])), (tv, .inl (G.2.1 0, 30, .inl q.2.2.2))]) [1, 2] rfl
                  have hDc := hD.sub (ws' := [(ta, .inr (2, [.ref tv, .int (nI q.2.2.1)])), (tv, .inl (G.2.1 0, 30, .inl q.2.2.2))]) [1, 2] (by decide) rfl
                  refine z_callv (wr := [(ea, .inr (0, [.ref sa, .ref ta, .int q.2.1, .int h1, .int h2, .int h3])), (sa, .inr (2, [.ref sv, .int (nI sc)])), (sv, .inl (G.2.1 0, 30, .inl sg))]) (va_runV (As := [.int bu]) (rest := []) ⟨hx, hb, hml, hown, hts⟩ (c_X2_add l G H.size ta tv 30 q.2.2.1 q.2.2.2 (by omega) (by omega) bu) (cwV 1 hts gX0_listen_X2_add rfl rfl rfl (by decide +kernel) ⟨(Nat.le_of_ble_eq_true rfl), (Nat.le_of_ble_eq_true rfl)⟩) (zV (ci := 2) (q0 := 0) hK hPc hDc rfl rfl) rfl rfl hl.1 rfl (lv_room (Nat.le_of_ble_eq_true rfl)) dX0_listen_150 ⟨(Nat.le_of_ble_eq_true rfl), (Nat.le_of_ble_eq_true rfl)⟩) hP hD hS hA [1, 2] [0, 3, 4] rfl rfl (by decide) (by decide) (fun u_10 H locs hw_10 hP hD hS => ?_)
                  have hP : va_P G.1 vwCl [(ea, .inr (0, [.ref sa, .ref ta, .int q.2.1, .int h1, .int h2, .int h3])), (sa, .inr (2, [.ref sv, .int (nI sc)])), (sv, .inl (G.2.1 0, 30, .inl sg)), (ta, .inr (2, [.ref tv, .int (nI (q.2.2.1 + 1))])), (tv, .inl (G.2.1 0, 30, .inl (upd q.2.2.2 q.2.2.1 bu)))] H := hP
                  have hD : va_D A [(ea, .inr (0, [.ref sa, .ref ta, .int q.2.1, .int h1, .int h2, .int h3])), (sa, .inr (2, [.ref sv, .int (nI sc)])), (sv, .inl (G.2.1 0, 30, .inl sg)), (ta, .inr (2, [.ref tv, .int (nI (q.2.2.1 + 1))])), (tv, .inl (G.2.1 0, 30, .inl (upd q.2.2.2 q.2.2.1 bu)))] := hD
                  refine lv_iconst (v := 0) hx hb dX0_listen_153 (by decide) ?_
                  refine lv_istore (lv' := [(6, .int 0), (8, .int bu), (0, .ref ea), (1, .int gl), (2, .int ga), (3, .int st), (4, .int lo), (5, .int 0), (7, .int (nI i))]) hx hb dX0_listen_154 hl (by decide) rfl (fun ls hl => ?_)
                  refine lv_iinc (v := (nI (i + 1))) (lv' := [(7, .int (nI (i + 1))), (6, .int 0), (8, .int bu), (0, .ref ea), (1, .int gl), (2, .int ga), (3, .int st), (4, .int lo), (5, .int 0)]) hx hb dX0_listen_156 hl (k := 8) rfl (nI_1 i) (by decide) rfl (fun ls hl => ?_)
                  refine lv_goto (tgt := 41) hx hb dX0_listen_159 (by decide) ?_
                  exact ih (i + 1) (0, q.2.1, q.2.2.1 + 1, upd q.2.2.2 q.2.2.1 bu) (by omega) (by omega) (show _ = lisS sg lo false i (lis sg lo false tg i) by rw [← hq, lisS_first hev (by decide) (by rw [← ebu]; exact Int32.not_lt.mpr c_8) hk0, ← ebu]) _ _ _ (hP.sub [0, 1, 2, 3, 4] rfl) (hD.sub [0, 1, 2, 3, 4] (by decide) rfl) hS (lv_sub hl [3, 4, 5, 6, 7, 8, 1, 0] rfl)
                · have hk0 : 0 < q.2.2.1 := by have := mt (z_le (b := 0) rfl rfl (by omega) (by omega)).mpr c_9; omega
                  refine lv_aload_n hx hb dX0_listen_135 rfl (lv_at hl 1 rfl) ?_
                  refine va_get (D := G.1) (ci := 0) (v := .ref ta) (C := RX0) (T := TX0) (N := 6) hx hb hts zi_X0_listen_X0 hown hK.1 hP 0 rfl rfl 1 (by decide) (hts _ zw_X0_listen_f20) (fun _ h9 => h9) rfl dX0_listen_136 ?_
                  refine lv_iload hx hb dX0_listen_139 (lv_at hl 7 rfl) ?_
                  have hPc := hP.sub (ws' := [(ta, .inr (2, [.ref tv, .int (nI q.2.2.1)])), (tv, .inl (G.2.1 0, 30, .inl q.2.2.2))]) [1, 2] rfl
                  have hDc := hD.sub (ws' := [(ta, .inr (2, [.ref tv, .int (nI q.2.2.1)])), (tv, .inl (G.2.1 0, 30, .inl q.2.2.2))]) [1, 2] (by decide) rfl
                  refine z_callv (wr := [(ea, .inr (0, [.ref sa, .ref ta, .int q.2.1, .int h1, .int h2, .int h3])), (sa, .inr (2, [.ref sv, .int (nI sc)])), (sv, .inl (G.2.1 0, 30, .inl sg))]) (va_runV (As := [.int q.1]) (rest := []) ⟨hx, hb, hml, hown, hts⟩ (c_X2_add l G H.size ta tv 30 q.2.2.1 q.2.2.2 (by omega) (by omega) q.1) (cwV 1 hts gX0_listen_X2_add rfl rfl rfl (by decide +kernel) ⟨(Nat.le_of_ble_eq_true rfl), (Nat.le_of_ble_eq_true rfl)⟩) (zV (ci := 2) (q0 := 0) hK hPc hDc rfl rfl) rfl rfl hl.1 rfl (lv_room (Nat.le_of_ble_eq_true rfl)) dX0_listen_141 ⟨(Nat.le_of_ble_eq_true rfl), (Nat.le_of_ble_eq_true rfl)⟩) hP hD hS hA [1, 2] [0, 3, 4] rfl rfl (by decide) (by decide) (fun u_11 H locs hw_11 hP hD hS => ?_)
                  have hP : va_P G.1 vwCl [(ea, .inr (0, [.ref sa, .ref ta, .int q.2.1, .int h1, .int h2, .int h3])), (sa, .inr (2, [.ref sv, .int (nI sc)])), (sv, .inl (G.2.1 0, 30, .inl sg)), (ta, .inr (2, [.ref tv, .int (nI (q.2.2.1 + 1))])), (tv, .inl (G.2.1 0, 30, .inl (upd q.2.2.2 q.2.2.1 q.1)))] H := hP
                  have hD : va_D A [(ea, .inr (0, [.ref sa, .ref ta, .int q.2.1, .int h1, .int h2, .int h3])), (sa, .inr (2, [.ref sv, .int (nI sc)])), (sv, .inl (G.2.1 0, 30, .inl sg)), (ta, .inr (2, [.ref tv, .int (nI (q.2.2.1 + 1))])), (tv, .inl (G.2.1 0, 30, .inl (upd q.2.2.2 q.2.2.1 q.1)))] := hD
                  refine lv_aload_n hx hb dX0_listen_144 rfl (lv_at hl 1 rfl) ?_
                  refine va_get (D := G.1) (ci := 0) (v := .ref ta) (C := RX0) (T := TX0) (N := 6) hx hb hts zi_X0_listen_X0 hown hK.1 hP 0 rfl rfl 1 (by decide) (hts _ zw_X0_listen_f20) (fun _ h9 => h9) rfl dX0_listen_145 ?_
                  refine lv_iload hx hb dX0_listen_148 (lv_at hl 0 rfl) ?_
                  have hPc := hP.sub (ws' := [(ta, .inr (2, [.ref tv, .int (nI (q.2.2.1 + 1))])), (tv, .inl (G.2.1 0, 30, .inl (upd q.2.2.2 q.2.2.1 q.1)))]) [3, 4] rfl
                  have hDc := hD.sub (ws' := [(ta, .inr (2, [.ref tv, .int (nI (q.2.2.1 + 1))])), (tv, .inl (G.2.1 0, 30, .inl (upd q.2.2.2 q.2.2.1 q.1)))]) [3, 4] (by decide) rfl
                  refine z_callv (wr := [(ea, .inr (0, [.ref sa, .ref ta, .int q.2.1, .int h1, .int h2, .int h3])), (sa, .inr (2, [.ref sv, .int (nI sc)])), (sv, .inl (G.2.1 0, 30, .inl sg))]) (va_runV (As := [.int bu]) (rest := []) ⟨hx, hb, hml, hown, hts⟩ (c_X2_add l G H.size ta tv 30 (q.2.2.1 + 1) (upd q.2.2.2 q.2.2.1 q.1) (by omega) (by omega) bu) (cwV 1 hts gX0_listen_X2_add rfl rfl rfl (by decide +kernel) ⟨(Nat.le_of_ble_eq_true rfl), (Nat.le_of_ble_eq_true rfl)⟩) (zV (ci := 2) (q0 := 0) hK hPc hDc rfl rfl) rfl rfl hl.1 rfl (lv_room (Nat.le_of_ble_eq_true rfl)) dX0_listen_150 ⟨(Nat.le_of_ble_eq_true rfl), (Nat.le_of_ble_eq_true rfl)⟩) hP hD hS hA [3, 4] [0, 1, 2] rfl rfl (by decide) (by decide) (fun u_12 H locs hw_12 hP hD hS => ?_)
                  have hP : va_P G.1 vwCl [(ea, .inr (0, [.ref sa, .ref ta, .int q.2.1, .int h1, .int h2, .int h3])), (sa, .inr (2, [.ref sv, .int (nI sc)])), (sv, .inl (G.2.1 0, 30, .inl sg)), (ta, .inr (2, [.ref tv, .int (nI ((q.2.2.1 + 1) + 1))])), (tv, .inl (G.2.1 0, 30, .inl (upd (upd q.2.2.2 q.2.2.1 q.1) (q.2.2.1 + 1) bu)))] H := hP
                  have hD : va_D A [(ea, .inr (0, [.ref sa, .ref ta, .int q.2.1, .int h1, .int h2, .int h3])), (sa, .inr (2, [.ref sv, .int (nI sc)])), (sv, .inl (G.2.1 0, 30, .inl sg)), (ta, .inr (2, [.ref tv, .int (nI ((q.2.2.1 + 1) + 1))])), (tv, .inl (G.2.1 0, 30, .inl (upd (upd q.2.2.2 q.2.2.1 q.1) (q.2.2.1 + 1) bu)))] := hD
                  refine lv_iconst (v := 0) hx hb dX0_listen_153 (by decide) ?_
                  refine lv_istore (lv' := [(6, .int 0), (8, .int bu), (0, .ref ea), (1, .int gl), (2, .int ga), (3, .int st), (4, .int lo), (5, .int 0), (7, .int (nI i))]) hx hb dX0_listen_154 hl (by decide) rfl (fun ls hl => ?_)
                  refine lv_iinc (v := (nI (i + 1))) (lv' := [(7, .int (nI (i + 1))), (6, .int 0), (8, .int bu), (0, .ref ea), (1, .int gl), (2, .int ga), (3, .int st), (4, .int lo), (5, .int 0)]) hx hb dX0_listen_156 hl (k := 8) rfl (nI_1 i) (by decide) rfl (fun ls hl => ?_)
                  refine lv_goto (tgt := 41) hx hb dX0_listen_159 (by decide) ?_
                  exact ih (i + 1) (0, q.2.1, q.2.2.1 + 1 + 1, upd (upd q.2.2.2 q.2.2.1 q.1) (q.2.2.1 + 1) bu) (by omega) (by omega) (show _ = lisS sg lo false i (lis sg lo false tg i) by rw [← hq, lisS_more hev (by decide) (by rw [← ebu]; exact Int32.not_lt.mpr c_8) hk0, ← ebu]) _ _ _ (hP.sub [0, 1, 2, 3, 4] rfl) (hD.sub [0, 1, 2, 3, 4] (by decide) rfl) hS (lv_sub hl [3, 4, 5, 6, 7, 8, 1, 0] rfl)
              · refine lv_aload_n hx hb dX0_listen_110 rfl (lv_at hl 1 rfl) ?_
                refine lv_iconst (v := 1) hx hb dX0_listen_111 (by decide) ?_
                refine va_put (D := G.1) (ci := 0) (v := .int 1) (ty := .boolean) (C := RX0) (T := TX0) (N := 6) hx hb hts zi_X0_listen_X0 tyX0 tyX0_ok nmX0 hown hK.1 hP hD hS 0 rfl rfl 2 (by decide) (hts _ zw_X0_listen_f46) (fun _ h9 => h9) rfl (by decide +kernel) rfl rfl (Nat.le_of_ble_eq_true rfl) dX0_listen_112 (fun H locs hP hD hS => ?_)
                have hP : va_P G.1 vwCl [(ea, .inr (0, [.ref sa, .ref ta, .int 1, .int h1, .int h2, .int h3])), (ta, .inr (2, [.ref tv, .int (nI q.2.2.1)])), (tv, .inl (G.2.1 0, 30, .inl q.2.2.2)), (sa, .inr (2, [.ref sv, .int (nI sc)])), (sv, .inl (G.2.1 0, 30, .inl sg))] H := hP
                have hD : va_D A [(ea, .inr (0, [.ref sa, .ref ta, .int 1, .int h1, .int h2, .int h3])), (ta, .inr (2, [.ref tv, .int (nI q.2.2.1)])), (tv, .inl (G.2.1 0, 30, .inl q.2.2.2)), (sa, .inr (2, [.ref sv, .int (nI sc)])), (sv, .inl (G.2.1 0, 30, .inl sg))] := hD
                refine lv_iload hx hb dX0_listen_115 (lv_at hl 7 rfl) ?_
                refine lv_iload hx hb dX0_listen_117 (lv_at hl 0 rfl) ?_
                refine lv_iadd hx hb dX0_listen_119 ?_
                refine lv_istore (lv' := [(6, .int (q.1 + bu)), (8, .int bu), (0, .ref ea), (1, .int gl), (2, .int ga), (3, .int st), (4, .int lo), (5, .int 0), (7, .int (nI i))]) hx hb dX0_listen_120 hl (by decide) rfl (fun ls hl => ?_)
                refine lv_goto (tgt := 156) hx hb dX0_listen_122 (by decide) ?_
                refine lv_iinc (v := (nI (i + 1))) (lv' := [(7, .int (nI (i + 1))), (6, .int (q.1 + bu)), (8, .int bu), (0, .ref ea), (1, .int gl), (2, .int ga), (3, .int st), (4, .int lo), (5, .int 0)]) hx hb dX0_listen_156 hl (k := 8) rfl (nI_1 i) (by decide) rfl (fun ls hl => ?_)
                refine lv_goto (tgt := 41) hx hb dX0_listen_159 (by decide) ?_
                exact ih (i + 1) (q.1 + bu, 1, q.2.2) (by omega) (by omega) (show _ = lisS sg lo false i (lis sg lo false tg i) by rw [← hq, lisS_miss hev (Or.inr (by rw [← ebu]; exact Int32.not_le.mp c_8)), ← ebu]) _ _ _ (hP.sub [0, 3, 4, 1, 2] rfl) (hD.sub [0, 3, 4, 1, 2] (by decide) rfl) hS (lv_sub hl [3, 4, 5, 6, 7, 8, 1, 0] rfl)
          · have hodd : i % 2 = 1 := (z_eq (a := i % 2) (b := 1) rfl rfl (by omega) (by omega)).mp c_5
            refine lv_iload hx hb dX0_listen_61 (lv_at hl 6 rfl) ?_
            refine lv_aload_n hx hb dX0_listen_63 rfl (lv_at hl 0 rfl) ?_
            refine va_get (D := G.1) (ci := 0) (v := .ref sa) (C := RX0) (T := TX0) (N := 6) hx hb hts zi_X0_listen_X0 hown hK.1 hP 0 rfl rfl 0 (by decide) (hts _ zw_X0_listen_f14) (fun _ h9 => h9) rfl dX0_listen_64 ?_
            refine lv_iload hx hb dX0_listen_67 (lv_at hl 7 rfl) ?_
            have hPc := hP.sub (ws' := [(sa, .inr (2, [.ref sv, .int (nI sc)])), (sv, .inl (G.2.1 0, 30, .inl sg))]) [1, 2] rfl
            have hDc := hD.sub (ws' := [(sa, .inr (2, [.ref sv, .int (nI sc)])), (sv, .inl (G.2.1 0, 30, .inl sg))]) [1, 2] (by decide) rfl
            refine z_calli (wr := [(ea, .inr (0, [.ref sa, .ref ta, .int q.2.1, .int h1, .int h2, .int h3])), (ta, .inr (2, [.ref tv, .int (nI q.2.2.1)])), (tv, .inl (G.2.1 0, 30, .inl q.2.2.2))]) (va_runV (As := [.int (nI i)]) (rest := [.int q.1]) ⟨hx, hb, hml, hown, hts⟩ (c_X2_at l G H.size sa sv 30 i sc sg (by omega) (by omega) (by omega)) (cwV 1 hts gX0_listen_X2_at rfl rfl rfl (by decide +kernel) ⟨(Nat.le_of_ble_eq_true rfl), (Nat.le_of_ble_eq_true rfl)⟩) (zV (ci := 2) (q0 := 0) hK hPc hDc rfl rfl) rfl rfl hl.1 rfl (lv_room (Nat.le_of_ble_eq_true rfl)) dX0_listen_69 ⟨(Nat.le_of_ble_eq_true rfl), (Nat.le_of_ble_eq_true rfl)⟩) hP hD hS hA [1, 2] [0, 3, 4] rfl rfl (by decide) (by decide) (fun r_13 u_13 H locs hw_13 hP hD hS => ?_)
            subst hw_13
            have hP : va_P G.1 vwCl [(ea, .inr (0, [.ref sa, .ref ta, .int q.2.1, .int h1, .int h2, .int h3])), (ta, .inr (2, [.ref tv, .int (nI q.2.2.1)])), (tv, .inl (G.2.1 0, 30, .inl q.2.2.2)), (sa, .inr (2, [.ref sv, .int (nI sc)])), (sv, .inl (G.2.1 0, 30, .inl sg))] H := hP
            have hD : va_D A [(ea, .inr (0, [.ref sa, .ref ta, .int q.2.1, .int h1, .int h2, .int h3])), (ta, .inr (2, [.ref tv, .int (nI q.2.2.1)])), (tv, .inl (G.2.1 0, 30, .inl q.2.2.2)), (sa, .inr (2, [.ref sv, .int (nI sc)])), (sv, .inl (G.2.1 0, 30, .inl sg))] := hD
            refine lv_iload hx hb dX0_listen_72 (lv_at hl 4 rfl) ?_
            refine lv_iadd hx hb dX0_listen_74 ?_
            refine lv_iadd hx hb dX0_listen_75 ?_
            refine lv_istore (lv' := [(6, .int (q.1 + ((sg i) + lo))), (0, .ref ea), (1, .int gl), (2, .int ga), (3, .int st), (4, .int lo), (5, .int 0), (7, .int (nI i))]) hx hb dX0_listen_76 hl (by decide) rfl (fun ls hl => ?_)
            refine lv_goto (tgt := 156) hx hb dX0_listen_78 (by decide) ?_
            refine lv_iinc (v := (nI (i + 1))) (lv' := [(7, .int (nI (i + 1))), (6, .int (q.1 + ((sg i) + lo))), (0, .ref ea), (1, .int gl), (2, .int ga), (3, .int st), (4, .int lo), (5, .int 0)]) hx hb dX0_listen_156 hl (k := 7) rfl (nI_1 i) (by decide) rfl (fun ls hl => ?_)
            refine lv_goto (tgt := 41) hx hb dX0_listen_159 (by decide) ?_
            exact ih (i + 1) (q.1 + (sg i + lo), q.2) (by omega) (by omega) (show _ = lisS sg lo false i (lis sg lo false tg i) by rw [← hq, lisS_odd hodd]) _ _ _ (hP.sub [0, 3, 4, 1, 2] rfl) (hD.sub [0, 3, 4, 1, 2] (by decide) rfl) hS (lv_sub hl [2, 3, 4, 5, 6, 7, 1, 0] rfl)
    exact loop _ 0 (0, 0, 0, tg) (Nat.lt_succ_self _) (by omega) rfl _ _ _ (hP.sub [0, 1, 2, 3, 4] rfl) (hD.sub [0, 1, 2, 3, 4] (by decide) rfl) hS (lv_sub hl [4, 5, 6, 7, 3, 2, 1, 0] rfl)
  · refine lv_iconst (v := 1) hx hb dX0_listen_16 (by decide) ?_
    refine lv_goto (tgt := 21) hx hb dX0_listen_17 (by decide) ?_
    refine lv_istore (lv' := [(5, .int 1), (4, .int lo), (0, .ref ea), (1, .int gl), (2, .int ga), (3, .int st)]) hx hb dX0_listen_21 hl (by decide) rfl (fun ls hl => ?_)
    refine lv_iconst (v := 0) hx hb dX0_listen_23 (by decide) ?_
    refine lv_istore (lv' := [(6, .int 0), (5, .int 1), (4, .int lo), (0, .ref ea), (1, .int gl), (2, .int ga), (3, .int st)]) hx hb dX0_listen_24 hl (by decide) rfl (fun ls hl => ?_)
    refine lv_aload_n hx hb dX0_listen_26 rfl (lv_at hl 3 rfl) ?_
    refine lv_iconst (v := 0) hx hb dX0_listen_27 (by decide) ?_
    refine va_put (D := G.1) (ci := 0) (v := .int 0) (ty := .boolean) (C := RX0) (T := TX0) (N := 6) hx hb hts zi_X0_listen_X0 tyX0 tyX0_ok nmX0 hown hK.1 hP hD hS 0 rfl rfl 2 (by decide) (hts _ zw_X0_listen_f46) (fun _ h9 => h9) rfl (by decide +kernel) rfl rfl (Nat.le_of_ble_eq_true rfl) dX0_listen_28 (fun H locs hP hD hS => ?_)
    have hP : va_P G.1 vwCl [(ea, .inr (0, [.ref sa, .ref ta, .int 0, .int h1, .int h2, .int h3])), (sa, .inr (2, [.ref sv, .int (nI sc)])), (sv, .inl (G.2.1 0, 30, .inl sg)), (ta, .inr (2, [.ref tv, .int (nI tc)])), (tv, .inl (G.2.1 0, 30, .inl tg))] H := hP
    have hD : va_D A [(ea, .inr (0, [.ref sa, .ref ta, .int 0, .int h1, .int h2, .int h3])), (sa, .inr (2, [.ref sv, .int (nI sc)])), (sv, .inl (G.2.1 0, 30, .inl sg)), (ta, .inr (2, [.ref tv, .int (nI tc)])), (tv, .inl (G.2.1 0, 30, .inl tg))] := hD
    refine lv_aload_n hx hb dX0_listen_31 rfl (lv_at hl 3 rfl) ?_
    refine va_get (D := G.1) (ci := 0) (v := .ref ta) (C := RX0) (T := TX0) (N := 6) hx hb hts zi_X0_listen_X0 hown hK.1 hP 0 rfl rfl 1 (by decide) (hts _ zw_X0_listen_f20) (fun _ h9 => h9) rfl dX0_listen_32 ?_
    have hPc := hP.sub (ws' := [(ta, .inr (2, [.ref tv, .int (nI tc)])), (tv, .inl (G.2.1 0, 30, .inl tg))]) [3, 4] rfl
    have hDc := hD.sub (ws' := [(ta, .inr (2, [.ref tv, .int (nI tc)])), (tv, .inl (G.2.1 0, 30, .inl tg))]) [3, 4] (by decide) rfl
    refine z_callv (wr := [(ea, .inr (0, [.ref sa, .ref ta, .int 0, .int h1, .int h2, .int h3])), (sa, .inr (2, [.ref sv, .int (nI sc)])), (sv, .inl (G.2.1 0, 30, .inl sg))]) (va_runV (As := []) (rest := []) ⟨hx, hb, hml, hown, hts⟩ (c_X2_empty l G H.size ta tv 30 (nI tc) tg) (cwV 0 hts gX0_listen_X2_empty rfl rfl rfl (by decide +kernel) ⟨(Nat.le_of_ble_eq_true rfl), (Nat.le_of_ble_eq_true rfl)⟩) (zV (ci := 2) (q0 := 0) hK hPc hDc rfl rfl) rfl rfl hl.1 rfl (lv_room (Nat.le_of_ble_eq_true rfl)) dX0_listen_35 ⟨(Nat.le_of_ble_eq_true rfl), (Nat.le_of_ble_eq_true rfl)⟩) hP hD hS hA [3, 4] [0, 1, 2] rfl rfl (by decide) (by decide) (fun u_14 H locs hw_14 hP hD hS => ?_)
    have hP : va_P G.1 vwCl [(ea, .inr (0, [.ref sa, .ref ta, .int 0, .int h1, .int h2, .int h3])), (sa, .inr (2, [.ref sv, .int (nI sc)])), (sv, .inl (G.2.1 0, 30, .inl sg)), (ta, .inr (2, [.ref tv, .int (nI 0)])), (tv, .inl (G.2.1 0, 30, .inl tg))] H := hP
    have hD : va_D A [(ea, .inr (0, [.ref sa, .ref ta, .int 0, .int h1, .int h2, .int h3])), (sa, .inr (2, [.ref sv, .int (nI sc)])), (sv, .inl (G.2.1 0, 30, .inl sg)), (ta, .inr (2, [.ref tv, .int (nI 0)])), (tv, .inl (G.2.1 0, 30, .inl tg))] := hD
    refine lv_iconst (v := 0) hx hb dX0_listen_38 (by decide) ?_
    refine lv_istore (lv' := [(7, .int 0), (6, .int 0), (5, .int 1), (4, .int lo), (0, .ref ea), (1, .int gl), (2, .int ga), (3, .int st)]) hx hb dX0_listen_39 hl (by decide) rfl (fun ls hl => ?_)
    have hwk : decide (st < 11 - ga) = true := decide_eq_true (Int32.not_le.mp c_2)
    have loop : ∀ (n9 : Nat) (i : Nat) (q : zL), sc - i < n9 → (i ≤ sc) → (q = lis sg lo true tg i) → ∀ (H : Heap) (locs : List Loc) (ls : Array Slot), va_P G.1 vwCl [(ea, .inr (0, [.ref sa, .ref ta, .int q.2.1, .int h1, .int h2, .int h3])), (sa, .inr (2, [.ref sv, .int (nI sc)])), (sv, .inl (G.2.1 0, 30, .inl sg)), (ta, .inr (2, [.ref tv, .int (nI q.2.2.1)])), (tv, .inl (G.2.1 0, 30, .inl q.2.2.2))] H → va_D A [(ea, .inr (0, [.ref sa, .ref ta, .int q.2.1, .int h1, .int h2, .int h3])), (sa, .inr (2, [.ref sv, .int (nI sc)])), (sv, .inl (G.2.1 0, 30, .inl sg)), (ta, .inr (2, [.ref tv, .int (nI q.2.2.1)])), (tv, .inl (G.2.1 0, 30, .inl q.2.2.2))] → va_S A s.heap H locs → lv_has ls 9 [(0, .ref ea), (1, .int gl), (2, .int ga), (3, .int st), (4, .int lo), (5, .int 1), (6, .int q.1), (7, .int (nI i))] → W p l e ({ frames := 1, cells := 0, slots := 0, locals := 21 } : Room) s m args below meth c H locs 0 0 (MQ below (zQv G (fun (u : zL) => u = lis sg (gl * ga / 20) (decide (st < 11 - ga)) tg sc) (fun u => [(ea, .inr (0, [.ref sa, .ref ta, .int u.2.1, .int h1, .int h2, .int h3])), (sa, .inr (2, [.ref sv, .int (nI sc)])), (sv, .inl (G.2.1 0, 30, .inl sg)), (ta, .inr (2, [.ref tv, .int (nI u.2.2.1)])), (tv, .inl (G.2.1 0, 30, .inl u.2.2.2))]) A) args s 0 0 A) (F0 m 41 ls []) := by
      intro n9
      induction n9 with
      | zero =>
        intro i q hm9
        exact absurd hm9 (Nat.not_lt_zero _)
      | succ n9 ih =>
        intro i q hm9 hi hq H locs ls hP hD hS hl
        refine lv_iload hx hb dX0_listen_41 (lv_at hl 7 rfl) ?_
        refine lv_aload_n hx hb dX0_listen_43 rfl (lv_at hl 0 rfl) ?_
        refine va_get (D := G.1) (ci := 0) (v := .ref sa) (C := RX0) (T := TX0) (N := 6) hx hb hts zi_X0_listen_X0 hown hK.1 hP 0 rfl rfl 0 (by decide) (hts _ zw_X0_listen_f14) (fun _ h9 => h9) rfl dX0_listen_44 ?_
        refine va_getN (D := G.1) (ci := 2) (v := .int (nI sc)) (C := RX2) (T := TX2) (N := 2) hx hb hts zi_X0_listen_X2 hown hK.1 hP 1 rfl rfl 1 (by decide) (zn_21 hK) (fun _ h9 => h9) rfl dX0_listen_47 ?_
        refine lv_icmp_ge (tgt := 162) hx hb dX0_listen_50 (by decide) (fun c_15 => ?_) (fun c_15 => ?_)
        · obtain rfl : i = sc := by have := (z_le rfl rfl (by omega) (by omega)).mp c_15; omega
          have hP9 := hP.sub (ws' := [(ea, .inr (0, [.ref sa, .ref ta, .int q.2.1, .int h1, .int h2, .int h3])), (sa, .inr (2, [.ref sv, .int (nI i)])), (sv, .inl (G.2.1 0, 30, .inl sg)), (ta, .inr (2, [.ref tv, .int (nI q.2.2.1)])), (tv, .inl (G.2.1 0, 30, .inl q.2.2.2))]) [0, 1, 2, 3, 4] rfl
          have hD9 := hD.sub (ws' := [(ea, .inr (0, [.ref sa, .ref ta, .int q.2.1, .int h1, .int h2, .int h3])), (sa, .inr (2, [.ref sv, .int (nI i)])), (sv, .inl (G.2.1 0, 30, .inl sg)), (ta, .inr (2, [.ref tv, .int (nI q.2.2.1)])), (tv, .inl (G.2.1 0, 30, .inl q.2.2.2))]) [0, 1, 2, 3, 4] (by decide) rfl
          exact z_vret hx hb hr hlocks q hP9 hD9 hS (Nat.le_of_ble_eq_true rfl) (Nat.le_of_ble_eq_true rfl) dX0_listen_162 (by rw [hwk, ← elo]; exact hq)
        · have hlt : i < sc := by have := mt (z_le rfl rfl (by omega) (by omega)).mpr c_15; omega
          have hkp := lis_kept sg lo true tg i
          rw [← hq] at hkp
          refine lv_iload hx hb dX0_listen_53 (lv_at hl 7 rfl) ?_
          refine lv_iconst (v := 2) hx hb dX0_listen_55 (by decide) ?_
          refine lv_irem hx hb dX0_listen_56 (by decide) ?_
          refine z_top (pk_rem (a := i) (d := 2) (by omega) (by omega) (by omega)) ?_
          refine lv_iconst (v := 1) hx hb dX0_listen_57 (by decide) ?_
          refine lv_icmp_ne (tgt := 81) hx hb dX0_listen_58 (by decide) (fun c_16 => ?_) (fun c_16 => ?_)
          · have hev : i % 2 = 0 := by have := mt (z_eq (a := i % 2) (b := 1) rfl rfl (by omega) (by omega)).mpr c_16; omega
            refine lv_aload_n hx hb dX0_listen_81 rfl (lv_at hl 0 rfl) ?_
            refine va_get (D := G.1) (ci := 0) (v := .ref sa) (C := RX0) (T := TX0) (N := 6) hx hb hts zi_X0_listen_X0 hown hK.1 hP 0 rfl rfl 0 (by decide) (hts _ zw_X0_listen_f14) (fun _ h9 => h9) rfl dX0_listen_82 ?_
            refine lv_iload hx hb dX0_listen_85 (lv_at hl 7 rfl) ?_
            have hPc := hP.sub (ws' := [(sa, .inr (2, [.ref sv, .int (nI sc)])), (sv, .inl (G.2.1 0, 30, .inl sg))]) [1, 2] rfl
            have hDc := hD.sub (ws' := [(sa, .inr (2, [.ref sv, .int (nI sc)])), (sv, .inl (G.2.1 0, 30, .inl sg))]) [1, 2] (by decide) rfl
            refine z_calli (wr := [(ea, .inr (0, [.ref sa, .ref ta, .int q.2.1, .int h1, .int h2, .int h3])), (ta, .inr (2, [.ref tv, .int (nI q.2.2.1)])), (tv, .inl (G.2.1 0, 30, .inl q.2.2.2))]) (va_runV (As := [.int (nI i)]) (rest := []) ⟨hx, hb, hml, hown, hts⟩ (c_X2_at l G H.size sa sv 30 i sc sg (by omega) (by omega) (by omega)) (cwV 1 hts gX0_listen_X2_at rfl rfl rfl (by decide +kernel) ⟨(Nat.le_of_ble_eq_true rfl), (Nat.le_of_ble_eq_true rfl)⟩) (zV (ci := 2) (q0 := 0) hK hPc hDc rfl rfl) rfl rfl hl.1 rfl (lv_room (Nat.le_of_ble_eq_true rfl)) dX0_listen_87 ⟨(Nat.le_of_ble_eq_true rfl), (Nat.le_of_ble_eq_true rfl)⟩) hP hD hS hA [1, 2] [0, 3, 4] rfl rfl (by decide) (by decide) (fun r_17 u_17 H locs hw_17 hP hD hS => ?_)
            subst hw_17
            have hP : va_P G.1 vwCl [(ea, .inr (0, [.ref sa, .ref ta, .int q.2.1, .int h1, .int h2, .int h3])), (ta, .inr (2, [.ref tv, .int (nI q.2.2.1)])), (tv, .inl (G.2.1 0, 30, .inl q.2.2.2)), (sa, .inr (2, [.ref sv, .int (nI sc)])), (sv, .inl (G.2.1 0, 30, .inl sg))] H := hP
            have hD : va_D A [(ea, .inr (0, [.ref sa, .ref ta, .int q.2.1, .int h1, .int h2, .int h3])), (ta, .inr (2, [.ref tv, .int (nI q.2.2.1)])), (tv, .inl (G.2.1 0, 30, .inl q.2.2.2)), (sa, .inr (2, [.ref sv, .int (nI sc)])), (sv, .inl (G.2.1 0, 30, .inl sg))] := hD
            refine lv_iload hx hb dX0_listen_90 (lv_at hl 4 rfl) ?_
            refine lv_isub hx hb dX0_listen_92 ?_
            refine lv_iconst (v := 0) hx hb dX0_listen_93 (by decide) ?_
            refine va_mmax (x := ((sg i) - lo)) (y := 0) hx hb (hml.trans hl.1.symm) hown (hts _ zw_X0_listen_ml57) (hts _ zw_X0_listen_stmax) (hts _ zw_X0_listen_inm) (hts _ zw_X0_listen_comax) (Nat.le_of_ble_eq_true rfl) (Nat.le_of_ble_eq_true rfl) (Nat.le_of_ble_eq_true rfl) (Nat.le_of_ble_eq_true rfl) dX0_listen_94 ?_
            refine lv_topi (fun bu ebu => ?_)
            refine lv_istore (lv' := [(8, .int bu), (0, .ref ea), (1, .int gl), (2, .int ga), (3, .int st), (4, .int lo), (5, .int 1), (6, .int q.1), (7, .int (nI i))]) hx hb dX0_listen_97 hl (by decide) rfl (fun ls hl => ?_)
            refine lv_iload hx hb dX0_listen_99 (lv_at hl 6 rfl) ?_
            refine lv_if_ne (tgt := 110) hx hb dX0_listen_101 (by decide) (fun c_18 => ?_) (fun c_18 => ?_)
            · refine lv_aload_n hx hb dX0_listen_110 rfl (lv_at hl 1 rfl) ?_
              refine lv_iconst (v := 1) hx hb dX0_listen_111 (by decide) ?_
              refine va_put (D := G.1) (ci := 0) (v := .int 1) (ty := .boolean) (C := RX0) (T := TX0) (N := 6) hx hb hts zi_X0_listen_X0 tyX0 tyX0_ok nmX0 hown hK.1 hP hD hS 0 rfl rfl 2 (by decide) (hts _ zw_X0_listen_f46) (fun _ h9 => h9) rfl (by decide +kernel) rfl rfl (Nat.le_of_ble_eq_true rfl) dX0_listen_112 (fun H locs hP hD hS => ?_)
              have hP : va_P G.1 vwCl [(ea, .inr (0, [.ref sa, .ref ta, .int 1, .int h1, .int h2, .int h3])), (ta, .inr (2, [.ref tv, .int (nI q.2.2.1)])), (tv, .inl (G.2.1 0, 30, .inl q.2.2.2)), (sa, .inr (2, [.ref sv, .int (nI sc)])), (sv, .inl (G.2.1 0, 30, .inl sg))] H := hP
              have hD : va_D A [(ea, .inr (0, [.ref sa, .ref ta, .int 1, .int h1, .int h2, .int h3])), (ta, .inr (2, [.ref tv, .int (nI q.2.2.1)])), (tv, .inl (G.2.1 0, 30, .inl q.2.2.2)), (sa, .inr (2, [.ref sv, .int (nI sc)])), (sv, .inl (G.2.1 0, 30, .inl sg))] := hD
              refine lv_iload hx hb dX0_listen_115 (lv_at hl 7 rfl) ?_
              refine lv_iload hx hb dX0_listen_117 (lv_at hl 0 rfl) ?_
              refine lv_iadd hx hb dX0_listen_119 ?_
              refine lv_istore (lv' := [(6, .int (q.1 + bu)), (8, .int bu), (0, .ref ea), (1, .int gl), (2, .int ga), (3, .int st), (4, .int lo), (5, .int 1), (7, .int (nI i))]) hx hb dX0_listen_120 hl (by decide) rfl (fun ls hl => ?_)
              refine lv_goto (tgt := 156) hx hb dX0_listen_122 (by decide) ?_
              refine lv_iinc (v := (nI (i + 1))) (lv' := [(7, .int (nI (i + 1))), (6, .int (q.1 + bu)), (8, .int bu), (0, .ref ea), (1, .int gl), (2, .int ga), (3, .int st), (4, .int lo), (5, .int 1)]) hx hb dX0_listen_156 hl (k := 8) rfl (nI_1 i) (by decide) rfl (fun ls hl => ?_)
              refine lv_goto (tgt := 41) hx hb dX0_listen_159 (by decide) ?_
              exact ih (i + 1) (q.1 + bu, 1, q.2.2) (by omega) (by omega) (show _ = lisS sg lo true i (lis sg lo true tg i) by rw [← hq, lisS_miss hev (Or.inl rfl), ← ebu]) _ _ _ (hP.sub [0, 3, 4, 1, 2] rfl) (hD.sub [0, 3, 4, 1, 2] (by decide) rfl) hS (lv_sub hl [3, 4, 5, 6, 7, 8, 1, 0] rfl)
            · exact absurd c_18 (by decide)
          · have hodd : i % 2 = 1 := (z_eq (a := i % 2) (b := 1) rfl rfl (by omega) (by omega)).mp c_16
            refine lv_iload hx hb dX0_listen_61 (lv_at hl 6 rfl) ?_
            refine lv_aload_n hx hb dX0_listen_63 rfl (lv_at hl 0 rfl) ?_
            refine va_get (D := G.1) (ci := 0) (v := .ref sa) (C := RX0) (T := TX0) (N := 6) hx hb hts zi_X0_listen_X0 hown hK.1 hP 0 rfl rfl 0 (by decide) (hts _ zw_X0_listen_f14) (fun _ h9 => h9) rfl dX0_listen_64 ?_
            refine lv_iload hx hb dX0_listen_67 (lv_at hl 7 rfl) ?_
            have hPc := hP.sub (ws' := [(sa, .inr (2, [.ref sv, .int (nI sc)])), (sv, .inl (G.2.1 0, 30, .inl sg))]) [1, 2] rfl
            have hDc := hD.sub (ws' := [(sa, .inr (2, [.ref sv, .int (nI sc)])), (sv, .inl (G.2.1 0, 30, .inl sg))]) [1, 2] (by decide) rfl
            refine z_calli (wr := [(ea, .inr (0, [.ref sa, .ref ta, .int q.2.1, .int h1, .int h2, .int h3])), (ta, .inr (2, [.ref tv, .int (nI q.2.2.1)])), (tv, .inl (G.2.1 0, 30, .inl q.2.2.2))]) (va_runV (As := [.int (nI i)]) (rest := [.int q.1]) ⟨hx, hb, hml, hown, hts⟩ (c_X2_at l G H.size sa sv 30 i sc sg (by omega) (by omega) (by omega)) (cwV 1 hts gX0_listen_X2_at rfl rfl rfl (by decide +kernel) ⟨(Nat.le_of_ble_eq_true rfl), (Nat.le_of_ble_eq_true rfl)⟩) (zV (ci := 2) (q0 := 0) hK hPc hDc rfl rfl) rfl rfl hl.1 rfl (lv_room (Nat.le_of_ble_eq_true rfl)) dX0_listen_69 ⟨(Nat.le_of_ble_eq_true rfl), (Nat.le_of_ble_eq_true rfl)⟩) hP hD hS hA [1, 2] [0, 3, 4] rfl rfl (by decide) (by decide) (fun r_19 u_19 H locs hw_19 hP hD hS => ?_)
            subst hw_19
            have hP : va_P G.1 vwCl [(ea, .inr (0, [.ref sa, .ref ta, .int q.2.1, .int h1, .int h2, .int h3])), (ta, .inr (2, [.ref tv, .int (nI q.2.2.1)])), (tv, .inl (G.2.1 0, 30, .inl q.2.2.2)), (sa, .inr (2, [.ref sv, .int (nI sc)])), (sv, .inl (G.2.1 0, 30, .inl sg))] H := hP
            have hD : va_D A [(ea, .inr (0, [.ref sa, .ref ta, .int q.2.1, .int h1, .int h2, .int h3])), (ta, .inr (2, [.ref tv, .int (nI q.2.2.1)])), (tv, .inl (G.2.1 0, 30, .inl q.2.2.2)), (sa, .inr (2, [.ref sv, .int (nI sc)])), (sv, .inl (G.2.1 0, 30, .inl sg))] := hD
            refine lv_iload hx hb dX0_listen_72 (lv_at hl 4 rfl) ?_
            refine lv_iadd hx hb dX0_listen_74 ?_
            refine lv_iadd hx hb dX0_listen_75 ?_
            refine lv_istore (lv' := [(6, .int (q.1 + ((sg i) + lo))), (0, .ref ea), (1, .int gl), (2, .int ga), (3, .int st), (4, .int lo), (5, .int 1), (7, .int (nI i))]) hx hb dX0_listen_76 hl (by decide) rfl (fun ls hl => ?_)
            refine lv_goto (tgt := 156) hx hb dX0_listen_78 (by decide) ?_
            refine lv_iinc (v := (nI (i + 1))) (lv' := [(7, .int (nI (i + 1))), (6, .int (q.1 + ((sg i) + lo))), (0, .ref ea), (1, .int gl), (2, .int ga), (3, .int st), (4, .int lo), (5, .int 1)]) hx hb dX0_listen_156 hl (k := 7) rfl (nI_1 i) (by decide) rfl (fun ls hl => ?_)
            refine lv_goto (tgt := 41) hx hb dX0_listen_159 (by decide) ?_
            exact ih (i + 1) (q.1 + (sg i + lo), q.2) (by omega) (by omega) (show _ = lisS sg lo true i (lis sg lo true tg i) by rw [← hq, lisS_odd hodd]) _ _ _ (hP.sub [0, 3, 4, 1, 2] rfl) (hD.sub [0, 3, 4, 1, 2] (by decide) rfl) hS (lv_sub hl [2, 3, 4, 5, 6, 7, 1, 0] rfl)
    exact loop _ 0 (0, 0, 0, tg) (Nat.lt_succ_self _) (by omega) rfl _ _ _ (hP.sub [0, 1, 2, 3, 4] rfl) (hD.sub [0, 1, 2, 3, 4] (by decide) rfl) hS (lv_sub hl [4, 5, 6, 7, 3, 2, 1, 0] rfl)
theorem zw_X0_decode_f20 : Cond.fieldLink RX0 20 "LightReceiver$Ear" "left" "LLightReceiver$Row;" ∈ wsX0_decode := by decide +kernel
theorem zi_X0_decode_X0 : ∀ w ∈ wsX00, w ∈ wsX0_decode := fun _ h => List.mem_cons_of_mem _ (List.mem_append_left _ (List.mem_append_right _ h))
theorem zi_X0_decode_X2 : ∀ w ∈ wsX20, w ∈ wsX0_decode := fun _ h => List.mem_cons_of_mem _ (List.mem_append_right _ h)
theorem zw_X0_decode_f67 : Cond.fieldLink RX0 67 "LightReceiver$Ear" "address" "I" ∈ wsX0_decode := by decide +kernel
theorem zw_X0_decode_f70 : Cond.fieldLink RX0 70 "LightReceiver$Ear" "code" "I" ∈ wsX0_decode := by decide +kernel
theorem zw_X0_decode_f73 : Cond.fieldLink RX0 73 "LightReceiver$Ear" "toggle" "I" ∈ wsX0_decode := by decide +kernel
set_option maxHeartbeats 4000000 in
set_option maxRecDepth 100000 in
theorem c_X0_decode (l : Launch) (G : zG) (sz : Nat) (ea sa ta tv : Nat) (h0 h1 h2 h3 : Int32) (tc : Nat) (htc : tc ≤ 30) (tg : zF) : zMi l yX0_decode wsX0_decode ({ frames := 1, cells := 0, slots := 0, locals := 21 } : Room) [.ref ea] G [(ea, .inr (0, [.ref sa, .ref ta, .int h0, .int h1, .int h2, .int h3])), (ta, .inr (2, [.ref tv, .int (nI tc)])), (tv, .inl (G.2.1 0, 30, .inl tg))] (fun (v : Int32) (u : Int32 × Int32 × Int32) => v = dec tc tg ∧ (v = 7 → u.1 = nI (wF tg 9 / 64) ∧ u.2.1 = nI (wF tg 9 / 4 % 16) ∧ u.2.2 = nI (wF tg 9 / 2 % 2))) (fun u => [(ea, .inr (0, [.ref sa, .ref ta, .int h0, .int u.1, .int u.2.1, .int u.2.2])), (ta, .inr (2, [.ref tv, .int (nI tc)])), (tv, .inl (G.2.1 0, 30, .inl tg))]) sz 0 0 := by
  refine zMi_of (cc := cX0_decode) (maxL := 3) (ret := (some .int)) (by decide) rfl (Nat.le_of_ble_eq_true rfl) ?_
  intro p e s m args below meth c A ls hx hb hr hml hts hown hlocks hnm hK hP hD hAe hS hA hl hsz
  have hown : s.vm.findClass RX0 = some m.cls := hown
  have hP : va_P G.1 vwCl [(ea, .inr (0, [.ref sa, .ref ta, .int h0, .int h1, .int h2, .int h3])), (ta, .inr (2, [.ref tv, .int (nI tc)])), (tv, .inl (G.2.1 0, 30, .inl tg))] s.heap := hP
  have hD : va_D A [(ea, .inr (0, [.ref sa, .ref ta, .int h0, .int h1, .int h2, .int h3])), (ta, .inr (2, [.ref tv, .int (nI tc)])), (tv, .inl (G.2.1 0, 30, .inl tg))] := hD
  have hl : lv_has ls 3 [(0, .ref ea)] := hl
  refine lv_aload_n hx hb dX0_decode_0 rfl (lv_at hl 0 rfl) ?_
  refine va_get (D := G.1) (ci := 0) (v := .ref ta) (C := RX0) (T := TX0) (N := 6) hx hb hts zi_X0_decode_X0 hown hK.1 hP 0 rfl rfl 1 (by decide) (hts _ zw_X0_decode_f20) (fun _ h9 => h9) rfl dX0_decode_1 ?_
  refine va_getN (D := G.1) (ci := 2) (v := .int (nI tc)) (C := RX2) (T := TX2) (N := 2) hx hb hts zi_X0_decode_X2 hown hK.1 hP 1 rfl rfl 1 (by decide) (zn_21 hK) (fun _ h9 => h9) rfl dX0_decode_4 ?_
  refine lv_iconst (v := 3) hx hb dX0_decode_7 (by decide) ?_
  refine lv_icmp_eq (tgt := 25) hx hb dX0_decode_8 (by decide) (fun c_1 => ?_) (fun c_1 => ?_)
  · have k3 : tc = 3 := (z_eq (b := 3) rfl rfl (by omega) (by omega)).mp c_1
    refine lv_aload_n hx hb dX0_decode_25 rfl (lv_at hl 0 rfl) ?_
    refine va_get (D := G.1) (ci := 0) (v := .ref ta) (C := RX0) (T := TX0) (N := 6) hx hb hts zi_X0_decode_X0 hown hK.1 hP 0 rfl rfl 1 (by decide) (hts _ zw_X0_decode_f20) (fun _ h9 => h9) rfl dX0_decode_26 ?_
    refine lv_iconst (v := 0) hx hb dX0_decode_29 (by decide) ?_
    have hPc := hP.sub (ws' := [(ta, .inr (2, [.ref tv, .int (nI tc)])), (tv, .inl (G.2.1 0, 30, .inl tg))]) [1, 2] rfl
    have hDc := hD.sub (ws' := [(ta, .inr (2, [.ref tv, .int (nI tc)])), (tv, .inl (G.2.1 0, 30, .inl tg))]) [1, 2] (by decide) rfl
    refine z_calli (wr := [(ea, .inr (0, [.ref sa, .ref ta, .int h0, .int h1, .int h2, .int h3]))]) (va_runV (As := [.int 0]) (rest := []) ⟨hx, hb, hml, hown, hts⟩ (c_X2_at l G s.heap.size ta tv 30 0 tc tg (by omega) (by omega) (by omega)) (cwV 1 hts gX0_decode_X2_at rfl rfl rfl (by decide +kernel) ⟨(Nat.le_of_ble_eq_true rfl), (Nat.le_of_ble_eq_true rfl)⟩) (zV (ci := 2) (q0 := 0) hK hPc hDc rfl rfl) rfl rfl hl.1 rfl (lv_room (Nat.le_of_ble_eq_true rfl)) dX0_decode_30 ⟨(Nat.le_of_ble_eq_true rfl), (Nat.le_of_ble_eq_true rfl)⟩) hP hD hS hA [1, 2] [0] rfl rfl (by decide) (by decide) (fun r_2 u_2 H locs hw_2 hP hD hS => ?_)
    subst hw_2
    have hP : va_P G.1 vwCl [(ea, .inr (0, [.ref sa, .ref ta, .int h0, .int h1, .int h2, .int h3])), (ta, .inr (2, [.ref tv, .int (nI tc)])), (tv, .inl (G.2.1 0, 30, .inl tg))] H := hP
    have hD : va_D A [(ea, .inr (0, [.ref sa, .ref ta, .int h0, .int h1, .int h2, .int h3])), (ta, .inr (2, [.ref tv, .int (nI tc)])), (tv, .inl (G.2.1 0, 30, .inl tg))] := hD
    refine lv_bipush (v := 10) hx hb dX0_decode_33 (by decide) ?_
    refine lv_icmp_lt (tgt := 51) hx hb dX0_decode_35 (by decide) (fun c_3 => ?_) (fun c_3 => ?_)
    · refine lv_iconst (v := 2) hx hb dX0_decode_51 (by decide) ?_
      have hP9 := hP.sub (ws' := [(ea, .inr (0, [.ref sa, .ref ta, .int h0, .int h1, .int h2, .int h3])), (ta, .inr (2, [.ref tv, .int (nI tc)])), (tv, .inl (G.2.1 0, 30, .inl tg))]) [0, 1, 2] rfl
      have hD9 := hD.sub (ws' := [(ea, .inr (0, [.ref sa, .ref ta, .int h0, .int h1, .int h2, .int h3])), (ta, .inr (2, [.ref tv, .int (nI tc)])), (tv, .inl (G.2.1 0, 30, .inl tg))]) [0, 1, 2] (by decide) rfl
      exact z_iret hx hb hr rfl hlocks (h1, h2, h3) hP9 hD9 hS (Nat.le_of_ble_eq_true rfl) (Nat.le_of_ble_eq_true rfl) dX0_decode_52 ⟨(dec_2 (Or.inl k3) (Or.inl c_3)).symm, (fun z => absurd z (by decide))⟩
    · refine lv_aload_n hx hb dX0_decode_38 rfl (lv_at hl 0 rfl) ?_
      refine va_get (D := G.1) (ci := 0) (v := .ref ta) (C := RX0) (T := TX0) (N := 6) hx hb hts zi_X0_decode_X0 hown hK.1 hP 0 rfl rfl 1 (by decide) (hts _ zw_X0_decode_f20) (fun _ h9 => h9) rfl dX0_decode_39 ?_
      refine lv_iconst (v := 0) hx hb dX0_decode_42 (by decide) ?_
      have hPc := hP.sub (ws' := [(ta, .inr (2, [.ref tv, .int (nI tc)])), (tv, .inl (G.2.1 0, 30, .inl tg))]) [1, 2] rfl
      have hDc := hD.sub (ws' := [(ta, .inr (2, [.ref tv, .int (nI tc)])), (tv, .inl (G.2.1 0, 30, .inl tg))]) [1, 2] (by decide) rfl
      refine z_calli (wr := [(ea, .inr (0, [.ref sa, .ref ta, .int h0, .int h1, .int h2, .int h3]))]) (va_runV (As := [.int 0]) (rest := []) ⟨hx, hb, hml, hown, hts⟩ (c_X2_at l G H.size ta tv 30 0 tc tg (by omega) (by omega) (by omega)) (cwV 1 hts gX0_decode_X2_at rfl rfl rfl (by decide +kernel) ⟨(Nat.le_of_ble_eq_true rfl), (Nat.le_of_ble_eq_true rfl)⟩) (zV (ci := 2) (q0 := 0) hK hPc hDc rfl rfl) rfl rfl hl.1 rfl (lv_room (Nat.le_of_ble_eq_true rfl)) dX0_decode_43 ⟨(Nat.le_of_ble_eq_true rfl), (Nat.le_of_ble_eq_true rfl)⟩) hP hD hS hA [1, 2] [0] rfl rfl (by decide) (by decide) (fun r_4 u_4 H locs hw_4 hP hD hS => ?_)
      subst hw_4
      have hP : va_P G.1 vwCl [(ea, .inr (0, [.ref sa, .ref ta, .int h0, .int h1, .int h2, .int h3])), (ta, .inr (2, [.ref tv, .int (nI tc)])), (tv, .inl (G.2.1 0, 30, .inl tg))] H := hP
      have hD : va_D A [(ea, .inr (0, [.ref sa, .ref ta, .int h0, .int h1, .int h2, .int h3])), (ta, .inr (2, [.ref tv, .int (nI tc)])), (tv, .inl (G.2.1 0, 30, .inl tg))] := hD
      refine lv_bipush (v := 20) hx hb dX0_decode_46 (by decide) ?_
      refine lv_icmp_le (tgt := 53) hx hb dX0_decode_48 (by decide) (fun c_5 => ?_) (fun c_5 => ?_)
      · have hno : ¬ (tg 0 < 10 ∨ 20 < tg 0) := fun z => z.elim c_3 (Int32.not_lt.mpr c_5)
        refine lv_aload_n hx hb dX0_decode_53 rfl (lv_at hl 0 rfl) ?_
        refine va_get (D := G.1) (ci := 0) (v := .ref ta) (C := RX0) (T := TX0) (N := 6) hx hb hts zi_X0_decode_X0 hown hK.1 hP 0 rfl rfl 1 (by decide) (hts _ zw_X0_decode_f20) (fun _ h9 => h9) rfl dX0_decode_54 ?_
        refine va_getN (D := G.1) (ci := 2) (v := .int (nI tc)) (C := RX2) (T := TX2) (N := 2) hx hb hts zi_X0_decode_X2 hown hK.1 hP 1 rfl rfl 1 (by decide) (zn_21 hK) (fun _ h9 => h9) rfl dX0_decode_57 ?_
        refine lv_iconst (v := 3) hx hb dX0_decode_60 (by decide) ?_
        refine lv_icmp_ne (tgt := 84) hx hb dX0_decode_61 (by decide) (fun c_6 => ?_) (fun c_6 => ?_)
        · exact absurd ((z_eq (b := 3) rfl rfl (by omega) (by omega)).mpr k3) c_6
        · refine lv_aload_n hx hb dX0_decode_64 rfl (lv_at hl 0 rfl) ?_
          refine va_get (D := G.1) (ci := 0) (v := .ref ta) (C := RX0) (T := TX0) (N := 6) hx hb hts zi_X0_decode_X0 hown hK.1 hP 0 rfl rfl 1 (by decide) (hts _ zw_X0_decode_f20) (fun _ h9 => h9) rfl dX0_decode_65 ?_
          refine lv_iconst (v := 1) hx hb dX0_decode_68 (by decide) ?_
          have hPc := hP.sub (ws' := [(ta, .inr (2, [.ref tv, .int (nI tc)])), (tv, .inl (G.2.1 0, 30, .inl tg))]) [1, 2] rfl
          have hDc := hD.sub (ws' := [(ta, .inr (2, [.ref tv, .int (nI tc)])), (tv, .inl (G.2.1 0, 30, .inl tg))]) [1, 2] (by decide) rfl
          refine z_calli (wr := [(ea, .inr (0, [.ref sa, .ref ta, .int h0, .int h1, .int h2, .int h3]))]) (va_runV (As := [.int 1]) (rest := []) ⟨hx, hb, hml, hown, hts⟩ (c_X2_at l G H.size ta tv 30 1 tc tg (by omega) (by omega) (by omega)) (cwV 1 hts gX0_decode_X2_at rfl rfl rfl (by decide +kernel) ⟨(Nat.le_of_ble_eq_true rfl), (Nat.le_of_ble_eq_true rfl)⟩) (zV (ci := 2) (q0 := 0) hK hPc hDc rfl rfl) rfl rfl hl.1 rfl (lv_room (Nat.le_of_ble_eq_true rfl)) dX0_decode_69 ⟨(Nat.le_of_ble_eq_true rfl), (Nat.le_of_ble_eq_true rfl)⟩) hP hD hS hA [1, 2] [0] rfl rfl (by decide) (by decide) (fun r_7 u_7 H locs hw_7 hP hD hS => ?_)
          subst hw_7
          have hP : va_P G.1 vwCl [(ea, .inr (0, [.ref sa, .ref ta, .int h0, .int h1, .int h2, .int h3])), (ta, .inr (2, [.ref tv, .int (nI tc)])), (tv, .inl (G.2.1 0, 30, .inl tg))] H := hP
          have hD : va_D A [(ea, .inr (0, [.ref sa, .ref ta, .int h0, .int h1, .int h2, .int h3])), (ta, .inr (2, [.ref tv, .int (nI tc)])), (tv, .inl (G.2.1 0, 30, .inl tg))] := hD
          refine lv_bipush (v := 6) hx hb dX0_decode_72 (by decide) ?_
          refine lv_icmp_gt (tgt := 82) hx hb dX0_decode_74 (by decide) (fun c_8 => ?_) (fun c_8 => ?_)
          · refine lv_iconst (v := 3) hx hb dX0_decode_82 (by decide) ?_
            have hP9 := hP.sub (ws' := [(ea, .inr (0, [.ref sa, .ref ta, .int h0, .int h1, .int h2, .int h3])), (ta, .inr (2, [.ref tv, .int (nI tc)])), (tv, .inl (G.2.1 0, 30, .inl tg))]) [0, 1, 2] rfl
            have hD9 := hD.sub (ws' := [(ea, .inr (0, [.ref sa, .ref ta, .int h0, .int h1, .int h2, .int h3])), (ta, .inr (2, [.ref tv, .int (nI tc)])), (tv, .inl (G.2.1 0, 30, .inl tg))]) [0, 1, 2] (by decide) rfl
            exact z_iret hx hb hr rfl hlocks (h1, h2, h3) hP9 hD9 hS (Nat.le_of_ble_eq_true rfl) (Nat.le_of_ble_eq_true rfl) dX0_decode_83 ⟨(dec_3 k3 hno (Int32.not_le.mpr c_8)).symm, (fun z => absurd z (by decide))⟩
          · refine lv_bipush (v := 8) hx hb dX0_decode_77 (by decide) ?_
            refine lv_goto (tgt := 83) hx hb dX0_decode_79 (by decide) ?_
            have hP9 := hP.sub (ws' := [(ea, .inr (0, [.ref sa, .ref ta, .int h0, .int h1, .int h2, .int h3])), (ta, .inr (2, [.ref tv, .int (nI tc)])), (tv, .inl (G.2.1 0, 30, .inl tg))]) [0, 1, 2] rfl
            have hD9 := hD.sub (ws' := [(ea, .inr (0, [.ref sa, .ref ta, .int h0, .int h1, .int h2, .int h3])), (ta, .inr (2, [.ref tv, .int (nI tc)])), (tv, .inl (G.2.1 0, 30, .inl tg))]) [0, 1, 2] (by decide) rfl
            exact z_iret hx hb hr rfl hlocks (h1, h2, h3) hP9 hD9 hS (Nat.le_of_ble_eq_true rfl) (Nat.le_of_ble_eq_true rfl) dX0_decode_83 ⟨(dec_8 k3 hno (Int32.not_lt.mp c_8)).symm, (fun z => absurd z (by decide))⟩
      · refine lv_iconst (v := 2) hx hb dX0_decode_51 (by decide) ?_
        have hP9 := hP.sub (ws' := [(ea, .inr (0, [.ref sa, .ref ta, .int h0, .int h1, .int h2, .int h3])), (ta, .inr (2, [.ref tv, .int (nI tc)])), (tv, .inl (G.2.1 0, 30, .inl tg))]) [0, 1, 2] rfl
        have hD9 := hD.sub (ws' := [(ea, .inr (0, [.ref sa, .ref ta, .int h0, .int h1, .int h2, .int h3])), (ta, .inr (2, [.ref tv, .int (nI tc)])), (tv, .inl (G.2.1 0, 30, .inl tg))]) [0, 1, 2] (by decide) rfl
        exact z_iret hx hb hr rfl hlocks (h1, h2, h3) hP9 hD9 hS (Nat.le_of_ble_eq_true rfl) (Nat.le_of_ble_eq_true rfl) dX0_decode_52 ⟨(dec_2 (Or.inl k3) (Or.inr (Int32.not_le.mp c_5))).symm, (fun z => absurd z (by decide))⟩
  · have k3 : ¬ tc = 3 := mt (z_eq (b := 3) rfl rfl (by omega) (by omega)).mpr c_1
    refine lv_aload_n hx hb dX0_decode_11 rfl (lv_at hl 0 rfl) ?_
    refine va_get (D := G.1) (ci := 0) (v := .ref ta) (C := RX0) (T := TX0) (N := 6) hx hb hts zi_X0_decode_X0 hown hK.1 hP 0 rfl rfl 1 (by decide) (hts _ zw_X0_decode_f20) (fun _ h9 => h9) rfl dX0_decode_12 ?_
    refine va_getN (D := G.1) (ci := 2) (v := .int (nI tc)) (C := RX2) (T := TX2) (N := 2) hx hb hts zi_X0_decode_X2 hown hK.1 hP 1 rfl rfl 1 (by decide) (zn_21 hK) (fun _ h9 => h9) rfl dX0_decode_15 ?_
    refine lv_bipush (v := 21) hx hb dX0_decode_18 (by decide) ?_
    refine lv_icmp_eq (tgt := 25) hx hb dX0_decode_20 (by decide) (fun c_9 => ?_) (fun c_9 => ?_)
    · have k21 : tc = 21 := (z_eq (b := 21) rfl rfl (by omega) (by omega)).mp c_9
      refine lv_aload_n hx hb dX0_decode_25 rfl (lv_at hl 0 rfl) ?_
      refine va_get (D := G.1) (ci := 0) (v := .ref ta) (C := RX0) (T := TX0) (N := 6) hx hb hts zi_X0_decode_X0 hown hK.1 hP 0 rfl rfl 1 (by decide) (hts _ zw_X0_decode_f20) (fun _ h9 => h9) rfl dX0_decode_26 ?_
      refine lv_iconst (v := 0) hx hb dX0_decode_29 (by decide) ?_
      have hPc := hP.sub (ws' := [(ta, .inr (2, [.ref tv, .int (nI tc)])), (tv, .inl (G.2.1 0, 30, .inl tg))]) [1, 2] rfl
      have hDc := hD.sub (ws' := [(ta, .inr (2, [.ref tv, .int (nI tc)])), (tv, .inl (G.2.1 0, 30, .inl tg))]) [1, 2] (by decide) rfl
      refine z_calli (wr := [(ea, .inr (0, [.ref sa, .ref ta, .int h0, .int h1, .int h2, .int h3]))]) (va_runV (As := [.int 0]) (rest := []) ⟨hx, hb, hml, hown, hts⟩ (c_X2_at l G s.heap.size ta tv 30 0 tc tg (by omega) (by omega) (by omega)) (cwV 1 hts gX0_decode_X2_at rfl rfl rfl (by decide +kernel) ⟨(Nat.le_of_ble_eq_true rfl), (Nat.le_of_ble_eq_true rfl)⟩) (zV (ci := 2) (q0 := 0) hK hPc hDc rfl rfl) rfl rfl hl.1 rfl (lv_room (Nat.le_of_ble_eq_true rfl)) dX0_decode_30 ⟨(Nat.le_of_ble_eq_true rfl), (Nat.le_of_ble_eq_true rfl)⟩) hP hD hS hA [1, 2] [0] rfl rfl (by decide) (by decide) (fun r_10 u_10 H locs hw_10 hP hD hS => ?_)
      subst hw_10
      have hP : va_P G.1 vwCl [(ea, .inr (0, [.ref sa, .ref ta, .int h0, .int h1, .int h2, .int h3])), (ta, .inr (2, [.ref tv, .int (nI tc)])), (tv, .inl (G.2.1 0, 30, .inl tg))] H := hP
      have hD : va_D A [(ea, .inr (0, [.ref sa, .ref ta, .int h0, .int h1, .int h2, .int h3])), (ta, .inr (2, [.ref tv, .int (nI tc)])), (tv, .inl (G.2.1 0, 30, .inl tg))] := hD
      refine lv_bipush (v := 10) hx hb dX0_decode_33 (by decide) ?_
      refine lv_icmp_lt (tgt := 51) hx hb dX0_decode_35 (by decide) (fun c_11 => ?_) (fun c_11 => ?_)
      · refine lv_iconst (v := 2) hx hb dX0_decode_51 (by decide) ?_
        have hP9 := hP.sub (ws' := [(ea, .inr (0, [.ref sa, .ref ta, .int h0, .int h1, .int h2, .int h3])), (ta, .inr (2, [.ref tv, .int (nI tc)])), (tv, .inl (G.2.1 0, 30, .inl tg))]) [0, 1, 2] rfl
        have hD9 := hD.sub (ws' := [(ea, .inr (0, [.ref sa, .ref ta, .int h0, .int h1, .int h2, .int h3])), (ta, .inr (2, [.ref tv, .int (nI tc)])), (tv, .inl (G.2.1 0, 30, .inl tg))]) [0, 1, 2] (by decide) rfl
        exact z_iret hx hb hr rfl hlocks (h1, h2, h3) hP9 hD9 hS (Nat.le_of_ble_eq_true rfl) (Nat.le_of_ble_eq_true rfl) dX0_decode_52 ⟨(dec_2 (Or.inr k21) (Or.inl c_11)).symm, (fun z => absurd z (by decide))⟩
      · refine lv_aload_n hx hb dX0_decode_38 rfl (lv_at hl 0 rfl) ?_
        refine va_get (D := G.1) (ci := 0) (v := .ref ta) (C := RX0) (T := TX0) (N := 6) hx hb hts zi_X0_decode_X0 hown hK.1 hP 0 rfl rfl 1 (by decide) (hts _ zw_X0_decode_f20) (fun _ h9 => h9) rfl dX0_decode_39 ?_
        refine lv_iconst (v := 0) hx hb dX0_decode_42 (by decide) ?_
        have hPc := hP.sub (ws' := [(ta, .inr (2, [.ref tv, .int (nI tc)])), (tv, .inl (G.2.1 0, 30, .inl tg))]) [1, 2] rfl
        have hDc := hD.sub (ws' := [(ta, .inr (2, [.ref tv, .int (nI tc)])), (tv, .inl (G.2.1 0, 30, .inl tg))]) [1, 2] (by decide) rfl
        refine z_calli (wr := [(ea, .inr (0, [.ref sa, .ref ta, .int h0, .int h1, .int h2, .int h3]))]) (va_runV (As := [.int 0]) (rest := []) ⟨hx, hb, hml, hown, hts⟩ (c_X2_at l G H.size ta tv 30 0 tc tg (by omega) (by omega) (by omega)) (cwV 1 hts gX0_decode_X2_at rfl rfl rfl (by decide +kernel) ⟨(Nat.le_of_ble_eq_true rfl), (Nat.le_of_ble_eq_true rfl)⟩) (zV (ci := 2) (q0 := 0) hK hPc hDc rfl rfl) rfl rfl hl.1 rfl (lv_room (Nat.le_of_ble_eq_true rfl)) dX0_decode_43 ⟨(Nat.le_of_ble_eq_true rfl), (Nat.le_of_ble_eq_true rfl)⟩) hP hD hS hA [1, 2] [0] rfl rfl (by decide) (by decide) (fun r_12 u_12 H locs hw_12 hP hD hS => ?_)
        subst hw_12
        have hP : va_P G.1 vwCl [(ea, .inr (0, [.ref sa, .ref ta, .int h0, .int h1, .int h2, .int h3])), (ta, .inr (2, [.ref tv, .int (nI tc)])), (tv, .inl (G.2.1 0, 30, .inl tg))] H := hP
        have hD : va_D A [(ea, .inr (0, [.ref sa, .ref ta, .int h0, .int h1, .int h2, .int h3])), (ta, .inr (2, [.ref tv, .int (nI tc)])), (tv, .inl (G.2.1 0, 30, .inl tg))] := hD
        refine lv_bipush (v := 20) hx hb dX0_decode_46 (by decide) ?_
        refine lv_icmp_le (tgt := 53) hx hb dX0_decode_48 (by decide) (fun c_13 => ?_) (fun c_13 => ?_)
        · have hno : ¬ (tg 0 < 10 ∨ 20 < tg 0) := fun z => z.elim c_11 (Int32.not_lt.mpr c_13)
          refine lv_aload_n hx hb dX0_decode_53 rfl (lv_at hl 0 rfl) ?_
          refine va_get (D := G.1) (ci := 0) (v := .ref ta) (C := RX0) (T := TX0) (N := 6) hx hb hts zi_X0_decode_X0 hown hK.1 hP 0 rfl rfl 1 (by decide) (hts _ zw_X0_decode_f20) (fun _ h9 => h9) rfl dX0_decode_54 ?_
          refine va_getN (D := G.1) (ci := 2) (v := .int (nI tc)) (C := RX2) (T := TX2) (N := 2) hx hb hts zi_X0_decode_X2 hown hK.1 hP 1 rfl rfl 1 (by decide) (zn_21 hK) (fun _ h9 => h9) rfl dX0_decode_57 ?_
          refine lv_iconst (v := 3) hx hb dX0_decode_60 (by decide) ?_
          refine lv_icmp_ne (tgt := 84) hx hb dX0_decode_61 (by decide) (fun c_14 => ?_) (fun c_14 => ?_)
          · refine lv_iconst (v := 0) hx hb dX0_decode_84 (by decide) ?_
            refine lv_istore_n (lv' := [(1, .int 0), (0, .ref ea)]) hx hb dX0_decode_85 rfl hl (by decide) rfl (fun ls hl => ?_)
            refine lv_iconst (v := 3) hx hb dX0_decode_86 (by decide) ?_
            refine lv_istore_n (lv' := [(2, .int 3), (1, .int 0), (0, .ref ea)]) hx hb dX0_decode_87 rfl hl (by decide) rfl (fun ls hl => ?_)
            have loop : ∀ (n9 : Nat) (k : Nat) (i : Nat), 9 - k < n9 → (k ≤ 9) → (i = 3 + 2 * k) → ∀ (H : Heap) (locs : List Loc) (ls : Array Slot), va_P G.1 vwCl [(ea, .inr (0, [.ref sa, .ref ta, .int h0, .int h1, .int h2, .int h3])), (ta, .inr (2, [.ref tv, .int (nI tc)])), (tv, .inl (G.2.1 0, 30, .inl tg))] H → va_D A [(ea, .inr (0, [.ref sa, .ref ta, .int h0, .int h1, .int h2, .int h3])), (ta, .inr (2, [.ref tv, .int (nI tc)])), (tv, .inl (G.2.1 0, 30, .inl tg))] → va_S A s.heap H locs → lv_has ls 3 [(0, .ref ea), (1, .int (nI (wF tg k))), (2, .int (nI i))] → W p l e ({ frames := 1, cells := 0, slots := 0, locals := 21 } : Room) s m args below meth c H locs 0 0 (MQ below (zQi G (fun (v : Int32) (u : Int32 × Int32 × Int32) => v = dec tc tg ∧ (v = 7 → u.1 = nI (wF tg 9 / 64) ∧ u.2.1 = nI (wF tg 9 / 4 % 16) ∧ u.2.2 = nI (wF tg 9 / 2 % 2))) (fun u => [(ea, .inr (0, [.ref sa, .ref ta, .int h0, .int u.1, .int u.2.1, .int u.2.2])), (ta, .inr (2, [.ref tv, .int (nI tc)])), (tv, .inl (G.2.1 0, 30, .inl tg))]) A) args s 0 0 A) (F0 m 88 ls []) := by
              intro n9
              induction n9 with
              | zero =>
                intro k i hm9
                exact absurd hm9 (Nat.not_lt_zero _)
              | succ n9 ih =>
                intro k i hm9 hk9 hi H locs ls hP hD hS hl
                refine lv_iload_n hx hb dX0_decode_88 rfl (lv_at hl 2 rfl) ?_
                refine lv_aload_n hx hb dX0_decode_89 rfl (lv_at hl 0 rfl) ?_
                refine va_get (D := G.1) (ci := 0) (v := .ref ta) (C := RX0) (T := TX0) (N := 6) hx hb hts zi_X0_decode_X0 hown hK.1 hP 0 rfl rfl 1 (by decide) (hts _ zw_X0_decode_f20) (fun _ h9 => h9) rfl dX0_decode_90 ?_
                refine va_getN (D := G.1) (ci := 2) (v := .int (nI tc)) (C := RX2) (T := TX2) (N := 2) hx hb hts zi_X0_decode_X2 hown hK.1 hP 1 rfl rfl 1 (by decide) (zn_21 hK) (fun _ h9 => h9) rfl dX0_decode_93 ?_
                refine lv_icmp_ge (tgt := 128) hx hb dX0_decode_96 (by decide) (fun c_15 => ?_) (fun c_15 => ?_)
                · obtain rfl : k = 9 := by have := (z_le (a := tc) rfl rfl (by omega) (by omega)).mp c_15; omega
                  refine lv_iload_n hx hb dX0_decode_128 rfl (lv_at hl 1 rfl) ?_
                  have hPc := hP.sub (ws' := []) [] rfl
                  have hDc := hD.sub (ws' := []) [] (by decide) rfl
                  refine z_calli (wr := [(ea, .inr (0, [.ref sa, .ref ta, .int h0, .int h1, .int h2, .int h3])), (ta, .inr (2, [.ref tv, .int (nI tc)])), (tv, .inl (G.2.1 0, 30, .inl tg))]) (va_runS (As := [.int (nI (wF tg 9))]) (rest := []) ⟨hx, hb, hml, hown, hts⟩ (c_J6_bitCount_0f7a4 l G H.size (wF tg 9) (wF_lt tg 9)) (va_cwS 1 hts gX0_decode_J6_bitCount_0f7a4 rfl rfl rfl (by decide +kernel) ⟨(Nat.le_of_ble_eq_true rfl), (Nat.le_of_ble_eq_true rfl)⟩) (zS hK hPc hDc) rfl rfl hl.1 rfl (lv_room (Nat.le_of_ble_eq_true rfl)) dX0_decode_129 ⟨(Nat.le_of_ble_eq_true rfl), (Nat.le_of_ble_eq_true rfl)⟩) hP hD hS hA [] [0, 1, 2] rfl rfl (by decide) (by decide) (fun r_16 u_16 H locs hw_16 hP hD hS => ?_)
                  subst hw_16
                  have hP : va_P G.1 vwCl [(ea, .inr (0, [.ref sa, .ref ta, .int h0, .int h1, .int h2, .int h3])), (ta, .inr (2, [.ref tv, .int (nI tc)])), (tv, .inl (G.2.1 0, 30, .inl tg))] H := hP
                  have hD : va_D A [(ea, .inr (0, [.ref sa, .ref ta, .int h0, .int h1, .int h2, .int h3])), (ta, .inr (2, [.ref tv, .int (nI tc)])), (tv, .inl (G.2.1 0, 30, .inl tg))] := hD
                  refine lv_iconst (v := 2) hx hb dX0_decode_132 (by decide) ?_
                  refine lv_irem hx hb dX0_decode_133 (by decide) ?_
                  have hz1 : z1 (wF tg 9) < 10 := by unfold z1; omega
                  refine z_top (pk_rem (a := z1 (wF tg 9)) (d := 2) (by omega) (by omega) (by omega)) ?_
                  refine lv_if_eq (tgt := 139) hx hb dX0_decode_134 (by decide) (fun c_17 => ?_) (fun c_17 => ?_)
                  · refine lv_aload_n hx hb dX0_decode_139 rfl (lv_at hl 0 rfl) ?_
                    refine lv_iload_n hx hb dX0_decode_140 rfl (lv_at hl 1 rfl) ?_
                    refine lv_bipush (v := 6) hx hb dX0_decode_141 (by decide) ?_
                    refine lv_ishr hx hb dX0_decode_143 ?_
                    refine lv_bipush (v := 7) hx hb dX0_decode_144 (by decide) ?_
                    refine lv_iand hx hb dX0_decode_146 ?_
                    refine z_top (zk_parts _ (wF_lt tg 9)).1 ?_
                    refine va_put (D := G.1) (ci := 0) (v := .int (nI (wF tg 9 / 64))) (ty := .int) (C := RX0) (T := TX0) (N := 6) hx hb hts zi_X0_decode_X0 tyX0 tyX0_ok nmX0 hown hK.1 hP hD hS 0 rfl rfl 3 (by decide) (hts _ zw_X0_decode_f67) (fun _ h9 => h9) rfl (by decide +kernel) rfl rfl (Nat.le_of_ble_eq_true rfl) dX0_decode_147 (fun H locs hP hD hS => ?_)
                    have hP : va_P G.1 vwCl [(ea, .inr (0, [.ref sa, .ref ta, .int h0, .int (nI (wF tg 9 / 64)), .int h2, .int h3])), (ta, .inr (2, [.ref tv, .int (nI tc)])), (tv, .inl (G.2.1 0, 30, .inl tg))] H := hP
                    have hD : va_D A [(ea, .inr (0, [.ref sa, .ref ta, .int h0, .int (nI (wF tg 9 / 64)), .int h2, .int h3])), (ta, .inr (2, [.ref tv, .int (nI tc)])), (tv, .inl (G.2.1 0, 30, .inl tg))] := hD
                    refine lv_aload_n hx hb dX0_decode_150 rfl (lv_at hl 0 rfl) ?_
                    refine lv_iload_n hx hb dX0_decode_151 rfl (lv_at hl 1 rfl) ?_
                    refine lv_iconst (v := 2) hx hb dX0_decode_152 (by decide) ?_
                    refine lv_ishr hx hb dX0_decode_153 ?_
                    refine lv_bipush (v := 15) hx hb dX0_decode_154 (by decide) ?_
                    refine lv_iand hx hb dX0_decode_156 ?_
                    refine z_top (zk_parts _ (wF_lt tg 9)).2.1 ?_
                    refine va_put (D := G.1) (ci := 0) (v := .int (nI (wF tg 9 / 4 % 16))) (ty := .int) (C := RX0) (T := TX0) (N := 6) hx hb hts zi_X0_decode_X0 tyX0 tyX0_ok nmX0 hown hK.1 hP hD hS 0 rfl rfl 4 (by decide) (hts _ zw_X0_decode_f70) (fun _ h9 => h9) rfl (by decide +kernel) rfl rfl (Nat.le_of_ble_eq_true rfl) dX0_decode_157 (fun H locs hP hD hS => ?_)
                    have hP : va_P G.1 vwCl [(ea, .inr (0, [.ref sa, .ref ta, .int h0, .int (nI (wF tg 9 / 64)), .int (nI (wF tg 9 / 4 % 16)), .int h3])), (ta, .inr (2, [.ref tv, .int (nI tc)])), (tv, .inl (G.2.1 0, 30, .inl tg))] H := hP
                    have hD : va_D A [(ea, .inr (0, [.ref sa, .ref ta, .int h0, .int (nI (wF tg 9 / 64)), .int (nI (wF tg 9 / 4 % 16)), .int h3])), (ta, .inr (2, [.ref tv, .int (nI tc)])), (tv, .inl (G.2.1 0, 30, .inl tg))] := hD
                    refine lv_aload_n hx hb dX0_decode_160 rfl (lv_at hl 0 rfl) ?_
                    refine lv_iload_n hx hb dX0_decode_161 rfl (lv_at hl 1 rfl) ?_
                    refine lv_iconst (v := 1) hx hb dX0_decode_162 (by decide) ?_
                    refine lv_ishr hx hb dX0_decode_163 ?_
                    refine lv_iconst (v := 1) hx hb dX0_decode_164 (by decide) ?_
                    refine lv_iand hx hb dX0_decode_165 ?_
                    refine z_top (zk_parts _ (wF_lt tg 9)).2.2 ?_
                    refine va_put (D := G.1) (ci := 0) (v := .int (nI (wF tg 9 / 2 % 2))) (ty := .int) (C := RX0) (T := TX0) (N := 6) hx hb hts zi_X0_decode_X0 tyX0 tyX0_ok nmX0 hown hK.1 hP hD hS 0 rfl rfl 5 (by decide) (hts _ zw_X0_decode_f73) (fun _ h9 => h9) rfl (by decide +kernel) rfl rfl (Nat.le_of_ble_eq_true rfl) dX0_decode_166 (fun H locs hP hD hS => ?_)
                    have hP : va_P G.1 vwCl [(ea, .inr (0, [.ref sa, .ref ta, .int h0, .int (nI (wF tg 9 / 64)), .int (nI (wF tg 9 / 4 % 16)), .int (nI (wF tg 9 / 2 % 2))])), (ta, .inr (2, [.ref tv, .int (nI tc)])), (tv, .inl (G.2.1 0, 30, .inl tg))] H := hP
                    have hD : va_D A [(ea, .inr (0, [.ref sa, .ref ta, .int h0, .int (nI (wF tg 9 / 64)), .int (nI (wF tg 9 / 4 % 16)), .int (nI (wF tg 9 / 2 % 2))])), (ta, .inr (2, [.ref tv, .int (nI tc)])), (tv, .inl (G.2.1 0, 30, .inl tg))] := hD
                    refine lv_bipush (v := 7) hx hb dX0_decode_169 (by decide) ?_
                    have hP9 := hP.sub (ws' := [(ea, .inr (0, [.ref sa, .ref ta, .int h0, .int (nI (wF tg 9 / 64)), .int (nI (wF tg 9 / 4 % 16)), .int (nI (wF tg 9 / 2 % 2))])), (ta, .inr (2, [.ref tv, .int (nI tc)])), (tv, .inl (G.2.1 0, 30, .inl tg))]) [0, 1, 2] rfl
                    have hD9 := hD.sub (ws' := [(ea, .inr (0, [.ref sa, .ref ta, .int h0, .int (nI (wF tg 9 / 64)), .int (nI (wF tg 9 / 4 % 16)), .int (nI (wF tg 9 / 2 % 2))])), (ta, .inr (2, [.ref tv, .int (nI tc)])), (tv, .inl (G.2.1 0, 30, .inl tg))]) [0, 1, 2] (by decide) rfl
                    exact z_iret hx hb hr rfl hlocks (nI (wF tg 9 / 64), nI (wF tg 9 / 4 % 16), nI (wF tg 9 / 2 % 2)) hP9 hD9 hS (Nat.le_of_ble_eq_true rfl) (Nat.le_of_ble_eq_true rfl) dX0_decode_171 ⟨(dec_7 k21 hno (by have := (z_eq (b := 0) rfl rfl (by omega) (by omega)).mp c_17; omega)).symm, fun _ => ⟨rfl, rfl, rfl⟩⟩
                  · refine lv_iconst (v := 4) hx hb dX0_decode_137 (by decide) ?_
                    have hP9 := hP.sub (ws' := [(ea, .inr (0, [.ref sa, .ref ta, .int h0, .int h1, .int h2, .int h3])), (ta, .inr (2, [.ref tv, .int (nI tc)])), (tv, .inl (G.2.1 0, 30, .inl tg))]) [0, 1, 2] rfl
                    have hD9 := hD.sub (ws' := [(ea, .inr (0, [.ref sa, .ref ta, .int h0, .int h1, .int h2, .int h3])), (ta, .inr (2, [.ref tv, .int (nI tc)])), (tv, .inl (G.2.1 0, 30, .inl tg))]) [0, 1, 2] (by decide) rfl
                    exact z_iret hx hb hr rfl hlocks (h1, h2, h3) hP9 hD9 hS (Nat.le_of_ble_eq_true rfl) (Nat.le_of_ble_eq_true rfl) dX0_decode_138 ⟨(dec_4 k21 hno (by have := mt (z_eq (b := 0) rfl rfl (by omega) (by omega)).mpr c_17; omega)).symm, (fun z => absurd z (by decide))⟩
                · have hk : k < 9 := by have := mt (z_le (a := tc) rfl rfl (by omega) (by omega)).mpr c_15; omega
                  have hwk : wF tg k < 256 := Nat.lt_of_lt_of_le (wF_lt tg k) (Nat.pow_le_pow_right (by omega) (show k ≤ 8 by omega))
                  refine lv_iload_n hx hb dX0_decode_99 rfl (lv_at hl 1 rfl) ?_
                  refine lv_iconst (v := 1) hx hb dX0_decode_100 (by decide) ?_
                  refine lv_ishl hx hb dX0_decode_101 ?_
                  refine lv_aload_n hx hb dX0_decode_102 rfl (lv_at hl 0 rfl) ?_
                  refine va_get (D := G.1) (ci := 0) (v := .ref ta) (C := RX0) (T := TX0) (N := 6) hx hb hts zi_X0_decode_X0 hown hK.1 hP 0 rfl rfl 1 (by decide) (hts _ zw_X0_decode_f20) (fun _ h9 => h9) rfl dX0_decode_103 ?_
                  refine lv_iload_n hx hb dX0_decode_106 rfl (lv_at hl 2 rfl) ?_
                  have hPc := hP.sub (ws' := [(ta, .inr (2, [.ref tv, .int (nI tc)])), (tv, .inl (G.2.1 0, 30, .inl tg))]) [1, 2] rfl
                  have hDc := hD.sub (ws' := [(ta, .inr (2, [.ref tv, .int (nI tc)])), (tv, .inl (G.2.1 0, 30, .inl tg))]) [1, 2] (by decide) rfl
                  refine z_calli (wr := [(ea, .inr (0, [.ref sa, .ref ta, .int h0, .int h1, .int h2, .int h3]))]) (va_runV (As := [.int (nI i)]) (rest := [.int (nI (wF tg k) <<< (1 &&& 31))]) ⟨hx, hb, hml, hown, hts⟩ (c_X2_at l G H.size ta tv 30 i tc tg (by omega) (by omega) (by omega)) (cwV 1 hts gX0_decode_X2_at rfl rfl rfl (by decide +kernel) ⟨(Nat.le_of_ble_eq_true rfl), (Nat.le_of_ble_eq_true rfl)⟩) (zV (ci := 2) (q0 := 0) hK hPc hDc rfl rfl) rfl rfl hl.1 rfl (lv_room (Nat.le_of_ble_eq_true rfl)) dX0_decode_107 ⟨(Nat.le_of_ble_eq_true rfl), (Nat.le_of_ble_eq_true rfl)⟩) hP hD hS hA [1, 2] [0] rfl rfl (by decide) (by decide) (fun r_18 u_18 H locs hw_18 hP hD hS => ?_)
                  subst hw_18
                  have hP : va_P G.1 vwCl [(ea, .inr (0, [.ref sa, .ref ta, .int h0, .int h1, .int h2, .int h3])), (ta, .inr (2, [.ref tv, .int (nI tc)])), (tv, .inl (G.2.1 0, 30, .inl tg))] H := hP
                  have hD : va_D A [(ea, .inr (0, [.ref sa, .ref ta, .int h0, .int h1, .int h2, .int h3])), (ta, .inr (2, [.ref tv, .int (nI tc)])), (tv, .inl (G.2.1 0, 30, .inl tg))] := hD
                  refine lv_bipush (v := 8) hx hb dX0_decode_110 (by decide) ?_
                  refine lv_icmp_gt (tgt := 119) hx hb dX0_decode_112 (by decide) (fun c_19 => ?_) (fun c_19 => ?_)
                  · refine lv_iconst (v := 1) hx hb dX0_decode_119 (by decide) ?_
                    refine lv_ior hx hb dX0_decode_120 ?_
                    refine z_top (show _ = nI (wF tg (k + 1)) from (zk_shl1 1 (by decide) (wF tg k) hwk).trans (congrArg nI (show 2 * wF tg k + 1 = 2 * wF tg k + (if tg (3 + 2 * k) ≤ 8 then 0 else 1) by rw [if_neg (by rw [← hi]; exact Int32.not_le.mpr c_19)]))) ?_
                    refine lv_istore_n (lv' := [(1, .int (nI (wF tg (k + 1)))), (0, .ref ea), (2, .int (nI i))]) hx hb dX0_decode_121 rfl hl (by decide) rfl (fun ls hl => ?_)
                    refine lv_iinc (v := (nI (i + 2))) (lv' := [(2, .int (nI (i + 2))), (1, .int (nI (wF tg (k + 1)))), (0, .ref ea)]) hx hb dX0_decode_122 hl (k := 2) rfl (nI_add i 2) (by decide) rfl (fun ls hl => ?_)
                    refine lv_goto (tgt := 88) hx hb dX0_decode_125 (by decide) ?_
                    exact ih (k + 1) (i + 2) (by omega) (by omega) (by omega) _ _ _ (hP.sub [0, 1, 2] rfl) (hD.sub [0, 1, 2] (by decide) rfl) hS (lv_sub hl [2, 1, 0] rfl)
                  · refine lv_iconst (v := 0) hx hb dX0_decode_115 (by decide) ?_
                    refine lv_goto (tgt := 120) hx hb dX0_decode_116 (by decide) ?_
                    refine lv_ior hx hb dX0_decode_120 ?_
                    refine z_top (show _ = nI (wF tg (k + 1)) from (zk_shl1 0 (by decide) (wF tg k) hwk).trans (congrArg nI (show 2 * wF tg k + 0 = 2 * wF tg k + (if tg (3 + 2 * k) ≤ 8 then 0 else 1) by rw [if_pos (by rw [← hi]; exact Int32.not_lt.mp c_19)]))) ?_
                    refine lv_istore_n (lv' := [(1, .int (nI (wF tg (k + 1)))), (0, .ref ea), (2, .int (nI i))]) hx hb dX0_decode_121 rfl hl (by decide) rfl (fun ls hl => ?_)
                    refine lv_iinc (v := (nI (i + 2))) (lv' := [(2, .int (nI (i + 2))), (1, .int (nI (wF tg (k + 1)))), (0, .ref ea)]) hx hb dX0_decode_122 hl (k := 2) rfl (nI_add i 2) (by decide) rfl (fun ls hl => ?_)
                    refine lv_goto (tgt := 88) hx hb dX0_decode_125 (by decide) ?_
                    exact ih (k + 1) (i + 2) (by omega) (by omega) (by omega) _ _ _ (hP.sub [0, 1, 2] rfl) (hD.sub [0, 1, 2] (by decide) rfl) hS (lv_sub hl [2, 1, 0] rfl)
            exact loop _ 0 3 (Nat.lt_succ_self _) (by omega) rfl _ _ _ (hP.sub [0, 1, 2] rfl) (hD.sub [0, 1, 2] (by decide) rfl) hS (lv_sub hl [2, 1, 0] rfl)
          · exact absurd ((z_eq (b := 3) rfl rfl (by omega) (by omega)).mp c_14) k3
        · refine lv_iconst (v := 2) hx hb dX0_decode_51 (by decide) ?_
          have hP9 := hP.sub (ws' := [(ea, .inr (0, [.ref sa, .ref ta, .int h0, .int h1, .int h2, .int h3])), (ta, .inr (2, [.ref tv, .int (nI tc)])), (tv, .inl (G.2.1 0, 30, .inl tg))]) [0, 1, 2] rfl
          have hD9 := hD.sub (ws' := [(ea, .inr (0, [.ref sa, .ref ta, .int h0, .int h1, .int h2, .int h3])), (ta, .inr (2, [.ref tv, .int (nI tc)])), (tv, .inl (G.2.1 0, 30, .inl tg))]) [0, 1, 2] (by decide) rfl
          exact z_iret hx hb hr rfl hlocks (h1, h2, h3) hP9 hD9 hS (Nat.le_of_ble_eq_true rfl) (Nat.le_of_ble_eq_true rfl) dX0_decode_52 ⟨(dec_2 (Or.inr k21) (Or.inr (Int32.not_le.mp c_13))).symm, (fun z => absurd z (by decide))⟩
    · have k21 : ¬ tc = 21 := mt (z_eq (b := 21) rfl rfl (by omega) (by omega)).mpr c_9
      refine lv_iconst (v := 1) hx hb dX0_decode_23 (by decide) ?_
      have hP9 := hP.sub (ws' := [(ea, .inr (0, [.ref sa, .ref ta, .int h0, .int h1, .int h2, .int h3])), (ta, .inr (2, [.ref tv, .int (nI tc)])), (tv, .inl (G.2.1 0, 30, .inl tg))]) [0, 1, 2] rfl
      have hD9 := hD.sub (ws' := [(ea, .inr (0, [.ref sa, .ref ta, .int h0, .int h1, .int h2, .int h3])), (ta, .inr (2, [.ref tv, .int (nI tc)])), (tv, .inl (G.2.1 0, 30, .inl tg))]) [0, 1, 2] (by decide) rfl
      exact z_iret hx hb hr rfl hlocks (h1, h2, h3) hP9 hD9 hS (Nat.le_of_ble_eq_true rfl) (Nat.le_of_ble_eq_true rfl) dX0_decode_24 ⟨(dec_1 k3 k21).symm, (fun z => absurd z (by decide))⟩
end

