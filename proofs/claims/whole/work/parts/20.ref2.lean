section
theorem zw_X6_layLeft_f7 : Cond.fieldLink RX6 7 "LightReceiverModel" "s" "[I" ∈ wsX6_layLeft := by decide +kernel
theorem zi_X6_layLeft_X6 : ∀ w ∈ wsX60, w ∈ wsX6_layLeft := fun _ h => List.mem_cons_of_mem _ (List.mem_append_right _ h)
theorem zw_X6_layLeft_f46 : Cond.fieldLink RX6 46 "LightReceiverModel" "kept" "I" ∈ wsX6_layLeft := by decide +kernel
theorem zw_X6_layLeft_f43 : Cond.fieldLink RX6 43 "LightReceiverModel" "times" "I" ∈ wsX6_layLeft := by decide +kernel
theorem zw_X6_layLeft_f22 : Cond.fieldLink RX6 22 "LightReceiverModel" "light" "[I" ∈ wsX6_layLeft := by decide +kernel
theorem zw_X6_layLeft_f25 : Cond.fieldLink RX6 25 "LightReceiverModel" "left" "[I" ∈ wsX6_layLeft := by decide +kernel
set_option maxHeartbeats 4000000 in
set_option maxRecDepth 100000 in
theorem c_X6_layLeft (l : Launch) (G : zG) (sz : Nat) (d : Nat → Nat) (kn ln tm kp pl : Nat) (th wr : Int32) (htm : tm ≤ 30) (s9 l9 f9 : zF) (st9 : Int32) (hlo9 : 0 ≤ (s9 0 * s9 1 / 20).toInt ∧ (s9 0 * s9 1 / 20).toInt ≤ 1000) (hli9 : ∀ j, j < tm → j % 2 = 0 → 0 ≤ (l9 j).toInt ∧ (l9 j).toInt ≤ 1000) : zMi l yX6_layLeft wsX6_layLeft ({ frames := 0, cells := 0, slots := 0, locals := 0 } : Room) [.ref (d 0), .int st9] G [((d 0), .inr (6, [.ref (d 1), .ref (d 2), .ref (d 3), .int (nI kn), .ref (d 4), .int (nI ln), .int th, .ref (d 5), .int (nI tm), .ref (d 6), .int (nI kp), .int (nI pl), .int wr])), ((d 1), .inl (G.2.1 0, 80, .inl s9)), ((d 5), .inl (G.2.1 0, 30, .inl l9)), ((d 6), .inl (G.2.1 0, 30, .inl f9))] (fun (v : Int32) (u : zL) => v = u.2.1 ∧ u = lis l9 (s9 0 * s9 1 / 20) (decide (st9 < 11 - s9 1)) f9 tm) (fun u => [((d 0), .inr (6, [.ref (d 1), .ref (d 2), .ref (d 3), .int (nI kn), .ref (d 4), .int (nI ln), .int th, .ref (d 5), .int (nI tm), .ref (d 6), .int (nI u.2.2.1), .int (nI pl), .int wr])), ((d 1), .inl (G.2.1 0, 80, .inl s9)), ((d 5), .inl (G.2.1 0, 30, .inl l9)), ((d 6), .inl (G.2.1 0, 30, .inl u.2.2.2))]) sz 0 0 := by
  refine zMi_of (cc := cX6_layLeft) (maxL := 9) (ret := (some .boolean)) (by decide) rfl (Nat.le_of_ble_eq_true rfl) ?_
  intro p e s m args below meth c A ls hx hb hr hml hts hown hlocks hnm hK hP hD hAe hS hA hl hsz
  have hown : s.vm.findClass RX6 = some m.cls := hown
  have hP : va_P G.1 vwCl [((d 0), .inr (6, [.ref (d 1), .ref (d 2), .ref (d 3), .int (nI kn), .ref (d 4), .int (nI ln), .int th, .ref (d 5), .int (nI tm), .ref (d 6), .int (nI kp), .int (nI pl), .int wr])), ((d 1), .inl (G.2.1 0, 80, .inl s9)), ((d 5), .inl (G.2.1 0, 30, .inl l9)), ((d 6), .inl (G.2.1 0, 30, .inl f9))] s.heap := hP
  have hD : va_D A [((d 0), .inr (6, [.ref (d 1), .ref (d 2), .ref (d 3), .int (nI kn), .ref (d 4), .int (nI ln), .int th, .ref (d 5), .int (nI tm), .ref (d 6), .int (nI kp), .int (nI pl), .int wr])), ((d 1), .inl (G.2.1 0, 80, .inl s9)), ((d 5), .inl (G.2.1 0, 30, .inl l9)), ((d 6), .inl (G.2.1 0, 30, .inl f9))] := hD
  have hl : lv_has ls 9 [(0, .ref (d 0)), (1, .int st9)] := hl
  refine lv_aload_n hx hb dX6_layLeft_0 rfl (lv_at hl 0 rfl) ?_
  refine va_get (D := G.1) (ci := 6) (v := .ref (d 1)) (C := RX6) (T := TX6) (N := 13) hx hb hts zi_X6_layLeft_X6 hown hK.1 hP 0 rfl rfl 0 (by decide) (hts _ zw_X6_layLeft_f7) (fun _ h9 => h9) rfl dX6_layLeft_1 ?_
  refine lv_iconst (v := 0) hx hb dX6_layLeft_4 (by decide) ?_
  refine z_iald (k := 0) hx hb hK.1 hP 1 0 rfl rfl rfl (by omega) (by omega) dX6_layLeft_5 ?_
  refine lv_aload_n hx hb dX6_layLeft_6 rfl (lv_at hl 0 rfl) ?_
  refine va_get (D := G.1) (ci := 6) (v := .ref (d 1)) (C := RX6) (T := TX6) (N := 13) hx hb hts zi_X6_layLeft_X6 hown hK.1 hP 0 rfl rfl 0 (by decide) (hts _ zw_X6_layLeft_f7) (fun _ h9 => h9) rfl dX6_layLeft_7 ?_
  refine lv_iconst (v := 1) hx hb dX6_layLeft_10 (by decide) ?_
  refine z_iald (k := 1) hx hb hK.1 hP 1 0 rfl rfl rfl (by omega) (by omega) dX6_layLeft_11 ?_
  refine lv_imul hx hb dX6_layLeft_12 ?_
  refine lv_bipush (v := 20) hx hb dX6_layLeft_13 (by decide) ?_
  refine lv_idiv hx hb dX6_layLeft_15 (by decide) ?_
  refine lv_topi (fun lo elo => ?_)
  refine lv_istore_n (lv' := [(2, .int lo), (0, .ref (d 0)), (1, .int st9)]) hx hb dX6_layLeft_16 rfl hl (by decide) rfl (fun ls hl => ?_)
  refine lv_iload_n hx hb dX6_layLeft_17 rfl (lv_at hl 2 rfl) ?_
  refine lv_bipush (v := 11) hx hb dX6_layLeft_18 (by decide) ?_
  refine lv_aload_n hx hb dX6_layLeft_20 rfl (lv_at hl 1 rfl) ?_
  refine va_get (D := G.1) (ci := 6) (v := .ref (d 1)) (C := RX6) (T := TX6) (N := 13) hx hb hts zi_X6_layLeft_X6 hown hK.1 hP 0 rfl rfl 0 (by decide) (hts _ zw_X6_layLeft_f7) (fun _ h9 => h9) rfl dX6_layLeft_21 ?_
  refine lv_iconst (v := 1) hx hb dX6_layLeft_24 (by decide) ?_
  refine z_iald (k := 1) hx hb hK.1 hP 1 0 rfl rfl rfl (by omega) (by omega) dX6_layLeft_25 ?_
  refine lv_isub hx hb dX6_layLeft_26 ?_
  refine lv_icmp_ge (tgt := 34) hx hb dX6_layLeft_27 (by decide) (fun c_1 => ?_) (fun c_1 => ?_)
  · refine lv_iconst (v := 0) hx hb dX6_layLeft_34 (by decide) ?_
    refine lv_istore_n (lv' := [(3, .int 0), (2, .int lo), (0, .ref (d 0)), (1, .int st9)]) hx hb dX6_layLeft_35 rfl hl (by decide) rfl (fun ls hl => ?_)
    refine lv_iconst (v := 0) hx hb dX6_layLeft_36 (by decide) ?_
    refine lv_istore (lv' := [(4, .int 0), (3, .int 0), (2, .int lo), (0, .ref (d 0)), (1, .int st9)]) hx hb dX6_layLeft_37 hl (by decide) rfl (fun ls hl => ?_)
    refine lv_iconst (v := 0) hx hb dX6_layLeft_39 (by decide) ?_
    refine lv_istore (lv' := [(5, .int 0), (4, .int 0), (3, .int 0), (2, .int lo), (0, .ref (d 0)), (1, .int st9)]) hx hb dX6_layLeft_40 hl (by decide) rfl (fun ls hl => ?_)
    refine lv_aload_n hx hb dX6_layLeft_42 rfl (lv_at hl 4 rfl) ?_
    refine lv_iconst (v := 0) hx hb dX6_layLeft_43 (by decide) ?_
    refine va_put (D := G.1) (ci := 6) (v := .int 0) (ty := .int) (C := RX6) (T := TX6) (N := 13) hx hb hts zi_X6_layLeft_X6 tyX6 tyX6_ok nmX6 hown hK.1 hP hD hS 0 rfl rfl 10 (by decide) (hts _ zw_X6_layLeft_f46) (fun _ h9 => h9) rfl (by decide +kernel) rfl rfl (Nat.le_of_ble_eq_true rfl) dX6_layLeft_44 (fun H locs hP hD hS => ?_)
    have hP : va_P G.1 vwCl [((d 0), .inr (6, [.ref (d 1), .ref (d 2), .ref (d 3), .int (nI kn), .ref (d 4), .int (nI ln), .int th, .ref (d 5), .int (nI tm), .ref (d 6), .int 0, .int (nI pl), .int wr])), ((d 1), .inl (G.2.1 0, 80, .inl s9)), ((d 5), .inl (G.2.1 0, 30, .inl l9)), ((d 6), .inl (G.2.1 0, 30, .inl f9))] H := hP
    have hD : va_D A [((d 0), .inr (6, [.ref (d 1), .ref (d 2), .ref (d 3), .int (nI kn), .ref (d 4), .int (nI ln), .int th, .ref (d 5), .int (nI tm), .ref (d 6), .int 0, .int (nI pl), .int wr])), ((d 1), .inl (G.2.1 0, 80, .inl s9)), ((d 5), .inl (G.2.1 0, 30, .inl l9)), ((d 6), .inl (G.2.1 0, 30, .inl f9))] := hD
    refine lv_iconst (v := 0) hx hb dX6_layLeft_47 (by decide) ?_
    refine lv_istore (lv' := [(6, .int 0), (5, .int 0), (4, .int 0), (3, .int 0), (2, .int lo), (0, .ref (d 0)), (1, .int st9)]) hx hb dX6_layLeft_48 hl (by decide) rfl (fun ls hl => ?_)
    have hwk : decide (st9 < 11 - s9 1) = false := decide_eq_false (Int32.not_lt.mpr c_1)
    have hlo : 0 ≤ lo.toInt ∧ lo.toInt ≤ 1000 := by rw [elo]; exact hlo9
    have loop : ∀ (n9 : Nat) (i : Nat) (q : zL), tm - i < n9 → (i ≤ tm) → (q = lis l9 lo false f9 i) → ∀ (H : Heap) (locs : List Loc) (ls : Array Slot), va_P G.1 vwCl [((d 0), .inr (6, [.ref (d 1), .ref (d 2), .ref (d 3), .int (nI kn), .ref (d 4), .int (nI ln), .int th, .ref (d 5), .int (nI tm), .ref (d 6), .int (nI q.2.2.1), .int (nI pl), .int wr])), ((d 1), .inl (G.2.1 0, 80, .inl s9)), ((d 5), .inl (G.2.1 0, 30, .inl l9)), ((d 6), .inl (G.2.1 0, 30, .inl q.2.2.2))] H → va_D A [((d 0), .inr (6, [.ref (d 1), .ref (d 2), .ref (d 3), .int (nI kn), .ref (d 4), .int (nI ln), .int th, .ref (d 5), .int (nI tm), .ref (d 6), .int (nI q.2.2.1), .int (nI pl), .int wr])), ((d 1), .inl (G.2.1 0, 80, .inl s9)), ((d 5), .inl (G.2.1 0, 30, .inl l9)), ((d 6), .inl (G.2.1 0, 30, .inl q.2.2.2))] → va_S A s.heap H locs → lv_has ls 9 [(0, .ref (d 0)), (1, .int st9), (2, .int lo), (3, .int 0), (4, .int q.2.1), (5, .int q.1), (6, .int (nI i))] → W p l e ({ frames := 0, cells := 0, slots := 0, locals := 0 } : Room) s m args below meth c H locs 0 0 (MQ below (zQi G (fun (v : Int32) (u : zL) => v = u.2.1 ∧ u = lis l9 (s9 0 * s9 1 / 20) (decide (st9 < 11 - s9 1)) f9 tm) (fun u => [((d 0), .inr (6, [.ref (d 1), .ref (d 2), .ref (d 3), .int (nI kn), .ref (d 4), .int (nI ln), .int th, .ref (d 5), .int (nI tm), .ref (d 6), .int (nI u.2.2.1), .int (nI pl), .int wr])), ((d 1), .inl (G.2.1 0, 80, .inl s9)), ((d 5), .inl (G.2.1 0, 30, .inl l9)), ((d 6), .inl (G.2.1 0, 30, .inl u.2.2.2))]) A) args s 0 0 A) (F0 m 50 ls []) := by
      intro n9
      induction n9 with
      | zero =>
        intro i q hm9
        exact absurd hm9 (Nat.not_lt_zero _)
      | succ n9 ih =>
        intro i q hm9 hi hq H locs ls hP hD hS hl
        refine lv_iload hx hb dX6_layLeft_50 (lv_at hl 6 rfl) ?_
        refine lv_aload_n hx hb dX6_layLeft_52 rfl (lv_at hl 0 rfl) ?_
        refine va_get (D := G.1) (ci := 6) (v := .int (nI tm)) (C := RX6) (T := TX6) (N := 13) hx hb hts zi_X6_layLeft_X6 hown hK.1 hP 0 rfl rfl 8 (by decide) (hts _ zw_X6_layLeft_f43) (fun _ h9 => h9) rfl dX6_layLeft_53 ?_
        refine lv_icmp_ge (tgt := 227) hx hb dX6_layLeft_56 (by decide) (fun c_2 => ?_) (fun c_2 => ?_)
        · obtain rfl : i = tm := by have := (z_le rfl rfl (by omega) (by omega)).mp c_2; omega
          refine lv_iload hx hb dX6_layLeft_227 (lv_at hl 4 rfl) ?_
          have hP9 := hP.sub (ws' := [((d 0), .inr (6, [.ref (d 1), .ref (d 2), .ref (d 3), .int (nI kn), .ref (d 4), .int (nI ln), .int th, .ref (d 5), .int (nI i), .ref (d 6), .int (nI q.2.2.1), .int (nI pl), .int wr])), ((d 1), .inl (G.2.1 0, 80, .inl s9)), ((d 5), .inl (G.2.1 0, 30, .inl l9)), ((d 6), .inl (G.2.1 0, 30, .inl q.2.2.2))]) [0, 1, 2, 3] rfl
          have hD9 := hD.sub (ws' := [((d 0), .inr (6, [.ref (d 1), .ref (d 2), .ref (d 3), .int (nI kn), .ref (d 4), .int (nI ln), .int th, .ref (d 5), .int (nI i), .ref (d 6), .int (nI q.2.2.1), .int (nI pl), .int wr])), ((d 1), .inl (G.2.1 0, 80, .inl s9)), ((d 5), .inl (G.2.1 0, 30, .inl l9)), ((d 6), .inl (G.2.1 0, 30, .inl q.2.2.2))]) [0, 1, 2, 3] (by decide) rfl
          exact z_iret hx hb hr (by have hms := lis_ms l9 lo false f9 i; rw [← hq] at hms; rcases hms with z | z <;> (rw [z]; rfl)) hlocks q hP9 hD9 hS (Nat.le_of_ble_eq_true rfl) (Nat.le_of_ble_eq_true rfl) dX6_layLeft_229 ⟨rfl, by rw [hwk, ← elo]; exact hq⟩
        · have hlt : i < tm := by have := mt (z_le rfl rfl (by omega) (by omega)).mpr c_2; omega
          have hkp := lis_kept l9 lo false f9 i
          rw [← hq] at hkp
          have hms := lis_ms l9 lo false f9 i
          rw [← hq] at hms
          refine lv_iload hx hb dX6_layLeft_59 (lv_at hl 6 rfl) ?_
          refine lv_iconst (v := 2) hx hb dX6_layLeft_61 (by decide) ?_
          refine lv_irem hx hb dX6_layLeft_62 (by decide) ?_
          refine z_top (pk_rem (a := i) (d := 2) (by omega) (by omega) (by omega)) ?_
          refine lv_iconst (v := 1) hx hb dX6_layLeft_63 (by decide) ?_
          refine lv_icmp_ne (tgt := 79) hx hb dX6_layLeft_64 (by decide) (fun c_3 => ?_) (fun c_3 => ?_)
          · have hev : i % 2 = 0 := by have := mt (z_eq (a := i % 2) (b := 1) rfl rfl (by omega) (by omega)).mpr c_3; omega
            refine lv_aload_n hx hb dX6_layLeft_79 rfl (lv_at hl 0 rfl) ?_
            refine va_get (D := G.1) (ci := 6) (v := .ref (d 5)) (C := RX6) (T := TX6) (N := 13) hx hb hts zi_X6_layLeft_X6 hown hK.1 hP 0 rfl rfl 7 (by decide) (hts _ zw_X6_layLeft_f22) (fun _ h9 => h9) rfl dX6_layLeft_80 ?_
            refine lv_iload hx hb dX6_layLeft_83 (lv_at hl 6 rfl) ?_
            refine z_iald (k := i) hx hb hK.1 hP 2 0 rfl rfl rfl (by omega) (by omega) dX6_layLeft_85 ?_
            refine lv_iload_n hx hb dX6_layLeft_86 rfl (lv_at hl 2 rfl) ?_
            refine lv_icmp_le (tgt := 102) hx hb dX6_layLeft_87 (by decide) (fun c_4 => ?_) (fun c_4 => ?_)
            · refine lv_iconst (v := 0) hx hb dX6_layLeft_102 (by decide) ?_
              refine lv_topi (fun bu ebu0 => ?_)
              have ebu : bu = (if (l9 i - lo) < 0 then (0 : Int32) else (l9 i - lo)) := by rw [← zsub (hli9 i hlt hev).1 (hli9 i hlt hev).2 hlo.1 hlo.2, if_neg (Int32.not_lt.mpr c_4), ebu0]
              refine lv_istore (lv' := [(7, .int bu), (0, .ref (d 0)), (1, .int st9), (2, .int lo), (3, .int 0), (4, .int q.2.1), (5, .int q.1), (6, .int (nI i))]) hx hb dX6_layLeft_103 hl (by decide) rfl (fun ls hl => ?_)
              refine lv_iload hx hb dX6_layLeft_105 (lv_at hl 7 rfl) ?_
              refine lv_iconst (v := 2) hx hb dX6_layLeft_107 (by decide) ?_
              refine lv_irem hx hb dX6_layLeft_108 (by decide) ?_
              refine z_top (pk_rem (a := i) (d := 2) (by omega) (by omega) (by omega)) ?_
              refine lv_if_ne (tgt := 126) hx hb dX6_layLeft_109 (by decide) (fun c_5 => ?_) (fun c_5 => ?_)
              · exact absurd ((z_eq (a := i % 2) (b := 0) rfl rfl (by omega) (by omega)).mpr hev) c_5
              · refine lv_iload_n hx hb dX6_layLeft_112 rfl (lv_at hl 4 rfl) ?_
                refine lv_if_ne (tgt := 122) hx hb dX6_layLeft_113 (by decide) (fun c_6 => ?_) (fun c_6 => ?_)
                · exact absurd rfl c_6
                · refine lv_iload hx hb dX6_layLeft_116 (lv_at hl 0 rfl) ?_
                  refine lv_iconst (v := 2) hx hb dX6_layLeft_118 (by decide) ?_
                  refine lv_icmp_ge (tgt := 126) hx hb dX6_layLeft_119 (by decide) (fun c_7 => ?_) (fun c_7 => ?_)
                  · refine lv_iconst (v := 0) hx hb dX6_layLeft_126 (by decide) ?_
                    refine lv_istore (lv' := [(8, .int 0), (7, .int bu), (0, .ref (d 0)), (1, .int st9), (2, .int lo), (3, .int 0), (4, .int q.2.1), (5, .int q.1), (6, .int (nI i))]) hx hb dX6_layLeft_127 hl (by decide) rfl (fun ls hl => ?_)
                    refine lv_iload hx hb dX6_layLeft_129 (lv_at hl 6 rfl) ?_
                    refine lv_if_ne (tgt := 139) hx hb dX6_layLeft_131 (by decide) (fun c_8 => ?_) (fun c_8 => ?_)
                    · refine lv_iconst (v := 1) hx hb dX6_layLeft_139 (by decide) ?_
                      refine lv_goto (tgt := 144) hx hb dX6_layLeft_140 (by decide) ?_
                      refine lv_istore (lv' := [(4, .int 1), (8, .int 0), (7, .int bu), (0, .ref (d 0)), (1, .int st9), (2, .int lo), (3, .int 0), (5, .int q.1), (6, .int (nI i))]) hx hb dX6_layLeft_144 hl (by decide) rfl (fun ls hl => ?_)
                      refine lv_iload hx hb dX6_layLeft_146 (lv_at hl 8 rfl) ?_
                      refine lv_iconst (v := 2) hx hb dX6_layLeft_148 (by decide) ?_
                      refine lv_irem hx hb dX6_layLeft_149 (by decide) ?_
                      refine z_top (pk_rem (a := i) (d := 2) (by omega) (by omega) (by omega)) ?_
                      refine lv_iconst (v := 1) hx hb dX6_layLeft_150 (by decide) ?_
                      refine lv_icmp_eq (tgt := 159) hx hb dX6_layLeft_151 (by decide) (fun c_9 => ?_) (fun c_9 => ?_)
                      · exact absurd ((z_eq (a := i % 2) (b := 1) rfl rfl (by omega) (by omega)).mp c_9) (by omega)
                      · refine lv_iload hx hb dX6_layLeft_154 (lv_at hl 1 rfl) ?_
                        refine lv_if_eq (tgt := 169) hx hb dX6_layLeft_156 (by decide) (fun c_10 => ?_) (fun c_10 => ?_)
                        · refine lv_aload_n hx hb dX6_layLeft_169 rfl (lv_at hl 3 rfl) ?_
                          refine va_get (D := G.1) (ci := 6) (v := .int (nI q.2.2.1)) (C := RX6) (T := TX6) (N := 13) hx hb hts zi_X6_layLeft_X6 hown hK.1 hP 0 rfl rfl 10 (by decide) (hts _ zw_X6_layLeft_f46) (fun _ h9 => h9) rfl dX6_layLeft_170 ?_
                          refine lv_if_le (tgt := 197) hx hb dX6_layLeft_173 (by decide) (fun c_11 => ?_) (fun c_11 => ?_)
                          · have hk0 : q.2.2.1 = 0 := by have := (z_le (b := 0) rfl rfl (by omega) (by omega)).mp c_11; omega
                            refine lv_aload_n hx hb dX6_layLeft_197 rfl (lv_at hl 3 rfl) ?_
                            refine va_get (D := G.1) (ci := 6) (v := .ref (d 6)) (C := RX6) (T := TX6) (N := 13) hx hb hts zi_X6_layLeft_X6 hown hK.1 hP 0 rfl rfl 9 (by decide) (hts _ zw_X6_layLeft_f25) (fun _ h9 => h9) rfl dX6_layLeft_198 ?_
                            refine lv_aload_n hx hb dX6_layLeft_201 rfl (lv_at hl 3 rfl) ?_
                            refine va_get (D := G.1) (ci := 6) (v := .int (nI q.2.2.1)) (C := RX6) (T := TX6) (N := 13) hx hb hts zi_X6_layLeft_X6 hown hK.1 hP 0 rfl rfl 10 (by decide) (hts _ zw_X6_layLeft_f46) (fun _ h9 => h9) rfl dX6_layLeft_202 ?_
                            refine lv_iload hx hb dX6_layLeft_205 (lv_at hl 2 rfl) ?_
                            refine z_iast (k := q.2.2.1) hx hb hK.1 hP hD hS 3 0 rfl rfl rfl (by omega) (by omega) dX6_layLeft_207 (fun H locs hP hD hS => ?_)
                            have hP : va_P G.1 vwCl [((d 0), .inr (6, [.ref (d 1), .ref (d 2), .ref (d 3), .int (nI kn), .ref (d 4), .int (nI ln), .int th, .ref (d 5), .int (nI tm), .ref (d 6), .int (nI q.2.2.1), .int (nI pl), .int wr])), ((d 1), .inl (G.2.1 0, 80, .inl s9)), ((d 5), .inl (G.2.1 0, 30, .inl l9)), ((d 6), .inl (G.2.1 0, 30, .inl (upd q.2.2.2 q.2.2.1 bu)))] H := hP
                            have hD : va_D A [((d 0), .inr (6, [.ref (d 1), .ref (d 2), .ref (d 3), .int (nI kn), .ref (d 4), .int (nI ln), .int th, .ref (d 5), .int (nI tm), .ref (d 6), .int (nI q.2.2.1), .int (nI pl), .int wr])), ((d 1), .inl (G.2.1 0, 80, .inl s9)), ((d 5), .inl (G.2.1 0, 30, .inl l9)), ((d 6), .inl (G.2.1 0, 30, .inl (upd q.2.2.2 q.2.2.1 bu)))] := hD
                            refine lv_aload_n hx hb dX6_layLeft_208 rfl (lv_at hl 3 rfl) ?_
                            refine lv_dup hx hb dX6_layLeft_209 rfl ?_
                            refine va_get (D := G.1) (ci := 6) (v := .int (nI q.2.2.1)) (C := RX6) (T := TX6) (N := 13) hx hb hts zi_X6_layLeft_X6 hown hK.1 hP 0 rfl rfl 10 (by decide) (hts _ zw_X6_layLeft_f46) (fun _ h9 => h9) rfl dX6_layLeft_210 ?_
                            refine lv_iconst (v := 1) hx hb dX6_layLeft_213 (by decide) ?_
                            refine lv_iadd hx hb dX6_layLeft_214 ?_
                            refine z_top (nI_1 _) ?_
                            refine va_put (D := G.1) (ci := 6) (v := .int (nI (q.2.2.1 + 1))) (ty := .int) (C := RX6) (T := TX6) (N := 13) hx hb hts zi_X6_layLeft_X6 tyX6 tyX6_ok nmX6 hown hK.1 hP hD hS 0 rfl rfl 10 (by decide) (hts _ zw_X6_layLeft_f46) (fun _ h9 => h9) rfl (by decide +kernel) rfl rfl (Nat.le_of_ble_eq_true rfl) dX6_layLeft_215 (fun H locs hP hD hS => ?_)
                            have hP : va_P G.1 vwCl [((d 0), .inr (6, [.ref (d 1), .ref (d 2), .ref (d 3), .int (nI kn), .ref (d 4), .int (nI ln), .int th, .ref (d 5), .int (nI tm), .ref (d 6), .int (nI (q.2.2.1 + 1)), .int (nI pl), .int wr])), ((d 1), .inl (G.2.1 0, 80, .inl s9)), ((d 5), .inl (G.2.1 0, 30, .inl l9)), ((d 6), .inl (G.2.1 0, 30, .inl (upd q.2.2.2 q.2.2.1 bu)))] H := hP
                            have hD : va_D A [((d 0), .inr (6, [.ref (d 1), .ref (d 2), .ref (d 3), .int (nI kn), .ref (d 4), .int (nI ln), .int th, .ref (d 5), .int (nI tm), .ref (d 6), .int (nI (q.2.2.1 + 1)), .int (nI pl), .int wr])), ((d 1), .inl (G.2.1 0, 80, .inl s9)), ((d 5), .inl (G.2.1 0, 30, .inl l9)), ((d 6), .inl (G.2.1 0, 30, .inl (upd q.2.2.2 q.2.2.1 bu)))] := hD
                            refine lv_iconst (v := 0) hx hb dX6_layLeft_218 (by decide) ?_
                            refine lv_istore (lv' := [(5, .int 0), (4, .int 1), (8, .int 0), (7, .int bu), (0, .ref (d 0)), (1, .int st9), (2, .int lo), (3, .int 0), (6, .int (nI i))]) hx hb dX6_layLeft_219 hl (by decide) rfl (fun ls hl => ?_)
                            refine lv_iinc (v := (nI (i + 1))) (lv' := [(6, .int (nI (i + 1))), (5, .int 0), (4, .int 1), (8, .int 0), (7, .int bu), (0, .ref (d 0)), (1, .int st9), (2, .int lo), (3, .int 0)]) hx hb dX6_layLeft_221 hl (k := 8) rfl (nI_1 i) (by decide) rfl (fun ls hl => ?_)
                            refine lv_goto (tgt := 50) hx hb dX6_layLeft_224 (by decide) ?_
                            exact ih (i + 1) (0, 1, q.2.2.1 + 1, upd q.2.2.2 q.2.2.1 bu) (by omega) (by omega) (show _ = lisS l9 lo false i (lis l9 lo false f9 i) by rw [← hq, lisS_first hev (by decide) (by rw [← ebu]; exact Int32.not_lt.mpr c_7) hk0, ← ebu]; exact Prod.ext rfl (Prod.ext (hms.elim (fun z => absurd z c_8) (fun z => z.symm)) rfl)) _ _ _ (hP.sub [0, 1, 2, 3] rfl) (hD.sub [0, 1, 2, 3] (by decide) rfl) hS (lv_sub hl [5, 6, 7, 8, 2, 1, 0] rfl)
                          · have hk0 : 0 < q.2.2.1 := by have := mt (z_le (b := 0) rfl rfl (by omega) (by omega)).mpr c_11; omega
                            refine lv_aload_n hx hb dX6_layLeft_176 rfl (lv_at hl 3 rfl) ?_
                            refine va_get (D := G.1) (ci := 6) (v := .ref (d 6)) (C := RX6) (T := TX6) (N := 13) hx hb hts zi_X6_layLeft_X6 hown hK.1 hP 0 rfl rfl 9 (by decide) (hts _ zw_X6_layLeft_f25) (fun _ h9 => h9) rfl dX6_layLeft_177 ?_
                            refine lv_aload_n hx hb dX6_layLeft_180 rfl (lv_at hl 3 rfl) ?_
                            refine va_get (D := G.1) (ci := 6) (v := .int (nI q.2.2.1)) (C := RX6) (T := TX6) (N := 13) hx hb hts zi_X6_layLeft_X6 hown hK.1 hP 0 rfl rfl 10 (by decide) (hts _ zw_X6_layLeft_f46) (fun _ h9 => h9) rfl dX6_layLeft_181 ?_
                            refine lv_iload hx hb dX6_layLeft_184 (lv_at hl 7 rfl) ?_
                            refine z_iast (k := q.2.2.1) hx hb hK.1 hP hD hS 3 0 rfl rfl rfl (by omega) (by omega) dX6_layLeft_186 (fun H locs hP hD hS => ?_)
                            have hP : va_P G.1 vwCl [((d 0), .inr (6, [.ref (d 1), .ref (d 2), .ref (d 3), .int (nI kn), .ref (d 4), .int (nI ln), .int th, .ref (d 5), .int (nI tm), .ref (d 6), .int (nI q.2.2.1), .int (nI pl), .int wr])), ((d 1), .inl (G.2.1 0, 80, .inl s9)), ((d 5), .inl (G.2.1 0, 30, .inl l9)), ((d 6), .inl (G.2.1 0, 30, .inl (upd q.2.2.2 q.2.2.1 q.1)))] H := hP
                            have hD : va_D A [((d 0), .inr (6, [.ref (d 1), .ref (d 2), .ref (d 3), .int (nI kn), .ref (d 4), .int (nI ln), .int th, .ref (d 5), .int (nI tm), .ref (d 6), .int (nI q.2.2.1), .int (nI pl), .int wr])), ((d 1), .inl (G.2.1 0, 80, .inl s9)), ((d 5), .inl (G.2.1 0, 30, .inl l9)), ((d 6), .inl (G.2.1 0, 30, .inl (upd q.2.2.2 q.2.2.1 q.1)))] := hD
                            refine lv_aload_n hx hb dX6_layLeft_187 rfl (lv_at hl 3 rfl) ?_
                            refine lv_dup hx hb dX6_layLeft_188 rfl ?_
                            refine va_get (D := G.1) (ci := 6) (v := .int (nI q.2.2.1)) (C := RX6) (T := TX6) (N := 13) hx hb hts zi_X6_layLeft_X6 hown hK.1 hP 0 rfl rfl 10 (by decide) (hts _ zw_X6_layLeft_f46) (fun _ h9 => h9) rfl dX6_layLeft_189 ?_
                            refine lv_iconst (v := 1) hx hb dX6_layLeft_192 (by decide) ?_
                            refine lv_iadd hx hb dX6_layLeft_193 ?_
                            refine z_top (nI_1 _) ?_
                            refine va_put (D := G.1) (ci := 6) (v := .int (nI (q.2.2.1 + 1))) (ty := .int) (C := RX6) (T := TX6) (N := 13) hx hb hts zi_X6_layLeft_X6 tyX6 tyX6_ok nmX6 hown hK.1 hP hD hS 0 rfl rfl 10 (by decide) (hts _ zw_X6_layLeft_f46) (fun _ h9 => h9) rfl (by decide +kernel) rfl rfl (Nat.le_of_ble_eq_true rfl) dX6_layLeft_194 (fun H locs hP hD hS => ?_)
                            have hP : va_P G.1 vwCl [((d 0), .inr (6, [.ref (d 1), .ref (d 2), .ref (d 3), .int (nI kn), .ref (d 4), .int (nI ln), .int th, .ref (d 5), .int (nI tm), .ref (d 6), .int (nI (q.2.2.1 + 1)), .int (nI pl), .int wr])), ((d 1), .inl (G.2.1 0, 80, .inl s9)), ((d 5), .inl (G.2.1 0, 30, .inl l9)), ((d 6), .inl (G.2.1 0, 30, .inl (upd q.2.2.2 q.2.2.1 q.1)))] H := hP
                            have hD : va_D A [((d 0), .inr (6, [.ref (d 1), .ref (d 2), .ref (d 3), .int (nI kn), .ref (d 4), .int (nI ln), .int th, .ref (d 5), .int (nI tm), .ref (d 6), .int (nI (q.2.2.1 + 1)), .int (nI pl), .int wr])), ((d 1), .inl (G.2.1 0, 80, .inl s9)), ((d 5), .inl (G.2.1 0, 30, .inl l9)), ((d 6), .inl (G.2.1 0, 30, .inl (upd q.2.2.2 q.2.2.1 q.1)))] := hD
                            refine lv_aload_n hx hb dX6_layLeft_197 rfl (lv_at hl 3 rfl) ?_
                            refine va_get (D := G.1) (ci := 6) (v := .ref (d 6)) (C := RX6) (T := TX6) (N := 13) hx hb hts zi_X6_layLeft_X6 hown hK.1 hP 0 rfl rfl 9 (by decide) (hts _ zw_X6_layLeft_f25) (fun _ h9 => h9) rfl dX6_layLeft_198 ?_
                            refine lv_aload_n hx hb dX6_layLeft_201 rfl (lv_at hl 3 rfl) ?_
                            refine va_get (D := G.1) (ci := 6) (v := .int (nI (q.2.2.1 + 1))) (C := RX6) (T := TX6) (N := 13) hx hb hts zi_X6_layLeft_X6 hown hK.1 hP 0 rfl rfl 10 (by decide) (hts _ zw_X6_layLeft_f46) (fun _ h9 => h9) rfl dX6_layLeft_202 ?_
                            refine lv_iload hx hb dX6_layLeft_205 (lv_at hl 2 rfl) ?_
                            refine z_iast (k := (q.2.2.1 + 1)) hx hb hK.1 hP hD hS 3 0 rfl rfl rfl (by omega) (by omega) dX6_layLeft_207 (fun H locs hP hD hS => ?_)
                            have hP : va_P G.1 vwCl [((d 0), .inr (6, [.ref (d 1), .ref (d 2), .ref (d 3), .int (nI kn), .ref (d 4), .int (nI ln), .int th, .ref (d 5), .int (nI tm), .ref (d 6), .int (nI (q.2.2.1 + 1)), .int (nI pl), .int wr])), ((d 1), .inl (G.2.1 0, 80, .inl s9)), ((d 5), .inl (G.2.1 0, 30, .inl l9)), ((d 6), .inl (G.2.1 0, 30, .inl (upd (upd q.2.2.2 q.2.2.1 q.1) (q.2.2.1 + 1) bu)))] H := hP
                            have hD : va_D A [((d 0), .inr (6, [.ref (d 1), .ref (d 2), .ref (d 3), .int (nI kn), .ref (d 4), .int (nI ln), .int th, .ref (d 5), .int (nI tm), .ref (d 6), .int (nI (q.2.2.1 + 1)), .int (nI pl), .int wr])), ((d 1), .inl (G.2.1 0, 80, .inl s9)), ((d 5), .inl (G.2.1 0, 30, .inl l9)), ((d 6), .inl (G.2.1 0, 30, .inl (upd (upd q.2.2.2 q.2.2.1 q.1) (q.2.2.1 + 1) bu)))] := hD
                            refine lv_aload_n hx hb dX6_layLeft_208 rfl (lv_at hl 3 rfl) ?_
                            refine lv_dup hx hb dX6_layLeft_209 rfl ?_
                            refine va_get (D := G.1) (ci := 6) (v := .int (nI (q.2.2.1 + 1))) (C := RX6) (T := TX6) (N := 13) hx hb hts zi_X6_layLeft_X6 hown hK.1 hP 0 rfl rfl 10 (by decide) (hts _ zw_X6_layLeft_f46) (fun _ h9 => h9) rfl dX6_layLeft_210 ?_
                            refine lv_iconst (v := 1) hx hb dX6_layLeft_213 (by decide) ?_
                            refine lv_iadd hx hb dX6_layLeft_214 ?_
                            refine z_top (nI_1 _) ?_
                            refine va_put (D := G.1) (ci := 6) (v := .int (nI ((q.2.2.1 + 1) + 1))) (ty := .int) (C := RX6) (T := TX6) (N := 13) hx hb hts zi_X6_layLeft_X6 tyX6 tyX6_ok nmX6 hown hK.1 hP hD hS 0 rfl rfl 10 (by decide) (hts _ zw_X6_layLeft_f46) (fun _ h9 => h9) rfl (by decide +kernel) rfl rfl (Nat.le_of_ble_eq_true rfl) dX6_layLeft_215 (fun H locs hP hD hS => ?_)
                            have hP : va_P G.1 vwCl [((d 0), .inr (6, [.ref (d 1), .ref (d 2), .ref (d 3), .int (nI kn), .ref (d 4), .int (nI ln), .int th, .ref (d 5), .int (nI tm), .ref (d 6), .int (nI ((q.2.2.1 + 1) + 1)), .int (nI pl), .int wr])), ((d 1), .inl (G.2.1 0, 80, .inl s9)), ((d 5), .inl (G.2.1 0, 30, .inl l9)), ((d 6), .inl (G.2.1 0, 30, .inl (upd (upd q.2.2.2 q.2.2.1 q.1) (q.2.2.1 + 1) bu)))] H := hP
                            have hD : va_D A [((d 0), .inr (6, [.ref (d 1), .ref (d 2), .ref (d 3), .int (nI kn), .ref (d 4), .int (nI ln), .int th, .ref (d 5), .int (nI tm), .ref (d 6), .int (nI ((q.2.2.1 + 1) + 1)), .int (nI pl), .int wr])), ((d 1), .inl (G.2.1 0, 80, .inl s9)), ((d 5), .inl (G.2.1 0, 30, .inl l9)), ((d 6), .inl (G.2.1 0, 30, .inl (upd (upd q.2.2.2 q.2.2.1 q.1) (q.2.2.1 + 1) bu)))] := hD
                            refine lv_iconst (v := 0) hx hb dX6_layLeft_218 (by decide) ?_
                            refine lv_istore (lv' := [(5, .int 0), (4, .int 1), (8, .int 0), (7, .int bu), (0, .ref (d 0)), (1, .int st9), (2, .int lo), (3, .int 0), (6, .int (nI i))]) hx hb dX6_layLeft_219 hl (by decide) rfl (fun ls hl => ?_)
                            refine lv_iinc (v := (nI (i + 1))) (lv' := [(6, .int (nI (i + 1))), (5, .int 0), (4, .int 1), (8, .int 0), (7, .int bu), (0, .ref (d 0)), (1, .int st9), (2, .int lo), (3, .int 0)]) hx hb dX6_layLeft_221 hl (k := 8) rfl (nI_1 i) (by decide) rfl (fun ls hl => ?_)
                            refine lv_goto (tgt := 50) hx hb dX6_layLeft_224 (by decide) ?_
                            exact ih (i + 1) (0, 1, q.2.2.1 + 1 + 1, upd (upd q.2.2.2 q.2.2.1 q.1) (q.2.2.1 + 1) bu) (by omega) (by omega) (show _ = lisS l9 lo false i (lis l9 lo false f9 i) by rw [← hq, lisS_more hev (by decide) (by rw [← ebu]; exact Int32.not_lt.mpr c_7) hk0, ← ebu]; exact Prod.ext rfl (Prod.ext (hms.elim (fun z => absurd z c_8) (fun z => z.symm)) rfl)) _ _ _ (hP.sub [0, 1, 2, 3] rfl) (hD.sub [0, 1, 2, 3] (by decide) rfl) hS (lv_sub hl [5, 6, 7, 8, 2, 1, 0] rfl)
                        · exact absurd rfl c_10
                    · refine lv_iload hx hb dX6_layLeft_134 (lv_at hl 0 rfl) ?_
                      refine lv_if_eq (tgt := 143) hx hb dX6_layLeft_136 (by decide) (fun c_12 => ?_) (fun c_12 => ?_)
                      · refine lv_iconst (v := 0) hx hb dX6_layLeft_143 (by decide) ?_
                        refine lv_istore (lv' := [(4, .int 0), (8, .int 0), (7, .int bu), (0, .ref (d 0)), (1, .int st9), (2, .int lo), (3, .int 0), (5, .int q.1), (6, .int (nI i))]) hx hb dX6_layLeft_144 hl (by decide) rfl (fun ls hl => ?_)
                        refine lv_iload hx hb dX6_layLeft_146 (lv_at hl 8 rfl) ?_
                        refine lv_iconst (v := 2) hx hb dX6_layLeft_148 (by decide) ?_
                        refine lv_irem hx hb dX6_layLeft_149 (by decide) ?_
                        refine z_top (pk_rem (a := i) (d := 2) (by omega) (by omega) (by omega)) ?_
                        refine lv_iconst (v := 1) hx hb dX6_layLeft_150 (by decide) ?_
                        refine lv_icmp_eq (tgt := 159) hx hb dX6_layLeft_151 (by decide) (fun c_13 => ?_) (fun c_13 => ?_)
                        · exact absurd ((z_eq (a := i % 2) (b := 1) rfl rfl (by omega) (by omega)).mp c_13) (by omega)
                        · refine lv_iload hx hb dX6_layLeft_154 (lv_at hl 1 rfl) ?_
                          refine lv_if_eq (tgt := 169) hx hb dX6_layLeft_156 (by decide) (fun c_14 => ?_) (fun c_14 => ?_)
                          · refine lv_aload_n hx hb dX6_layLeft_169 rfl (lv_at hl 3 rfl) ?_
                            refine va_get (D := G.1) (ci := 6) (v := .int (nI q.2.2.1)) (C := RX6) (T := TX6) (N := 13) hx hb hts zi_X6_layLeft_X6 hown hK.1 hP 0 rfl rfl 10 (by decide) (hts _ zw_X6_layLeft_f46) (fun _ h9 => h9) rfl dX6_layLeft_170 ?_
                            refine lv_if_le (tgt := 197) hx hb dX6_layLeft_173 (by decide) (fun c_15 => ?_) (fun c_15 => ?_)
                            · have hk0 : q.2.2.1 = 0 := by have := (z_le (b := 0) rfl rfl (by omega) (by omega)).mp c_15; omega
                              refine lv_aload_n hx hb dX6_layLeft_197 rfl (lv_at hl 3 rfl) ?_
                              refine va_get (D := G.1) (ci := 6) (v := .ref (d 6)) (C := RX6) (T := TX6) (N := 13) hx hb hts zi_X6_layLeft_X6 hown hK.1 hP 0 rfl rfl 9 (by decide) (hts _ zw_X6_layLeft_f25) (fun _ h9 => h9) rfl dX6_layLeft_198 ?_
                              refine lv_aload_n hx hb dX6_layLeft_201 rfl (lv_at hl 3 rfl) ?_
                              refine va_get (D := G.1) (ci := 6) (v := .int (nI q.2.2.1)) (C := RX6) (T := TX6) (N := 13) hx hb hts zi_X6_layLeft_X6 hown hK.1 hP 0 rfl rfl 10 (by decide) (hts _ zw_X6_layLeft_f46) (fun _ h9 => h9) rfl dX6_layLeft_202 ?_
                              refine lv_iload hx hb dX6_layLeft_205 (lv_at hl 2 rfl) ?_
                              refine z_iast (k := q.2.2.1) hx hb hK.1 hP hD hS 3 0 rfl rfl rfl (by omega) (by omega) dX6_layLeft_207 (fun H locs hP hD hS => ?_)
                              have hP : va_P G.1 vwCl [((d 0), .inr (6, [.ref (d 1), .ref (d 2), .ref (d 3), .int (nI kn), .ref (d 4), .int (nI ln), .int th, .ref (d 5), .int (nI tm), .ref (d 6), .int (nI q.2.2.1), .int (nI pl), .int wr])), ((d 1), .inl (G.2.1 0, 80, .inl s9)), ((d 5), .inl (G.2.1 0, 30, .inl l9)), ((d 6), .inl (G.2.1 0, 30, .inl (upd q.2.2.2 q.2.2.1 bu)))] H := hP
                              have hD : va_D A [((d 0), .inr (6, [.ref (d 1), .ref (d 2), .ref (d 3), .int (nI kn), .ref (d 4), .int (nI ln), .int th, .ref (d 5), .int (nI tm), .ref (d 6), .int (nI q.2.2.1), .int (nI pl), .int wr])), ((d 1), .inl (G.2.1 0, 80, .inl s9)), ((d 5), .inl (G.2.1 0, 30, .inl l9)), ((d 6), .inl (G.2.1 0, 30, .inl (upd q.2.2.2 q.2.2.1 bu)))] := hD
                              refine lv_aload_n hx hb dX6_layLeft_208 rfl (lv_at hl 3 rfl) ?_
                              refine lv_dup hx hb dX6_layLeft_209 rfl ?_
                              refine va_get (D := G.1) (ci := 6) (v := .int (nI q.2.2.1)) (C := RX6) (T := TX6) (N := 13) hx hb hts zi_X6_layLeft_X6 hown hK.1 hP 0 rfl rfl 10 (by decide) (hts _ zw_X6_layLeft_f46) (fun _ h9 => h9) rfl dX6_layLeft_210 ?_
                              refine lv_iconst (v := 1) hx hb dX6_layLeft_213 (by decide) ?_
                              refine lv_iadd hx hb dX6_layLeft_214 ?_
                              refine z_top (nI_1 _) ?_
                              refine va_put (D := G.1) (ci := 6) (v := .int (nI (q.2.2.1 + 1))) (ty := .int) (C := RX6) (T := TX6) (N := 13) hx hb hts zi_X6_layLeft_X6 tyX6 tyX6_ok nmX6 hown hK.1 hP hD hS 0 rfl rfl 10 (by decide) (hts _ zw_X6_layLeft_f46) (fun _ h9 => h9) rfl (by decide +kernel) rfl rfl (Nat.le_of_ble_eq_true rfl) dX6_layLeft_215 (fun H locs hP hD hS => ?_)
                              have hP : va_P G.1 vwCl [((d 0), .inr (6, [.ref (d 1), .ref (d 2), .ref (d 3), .int (nI kn), .ref (d 4), .int (nI ln), .int th, .ref (d 5), .int (nI tm), .ref (d 6), .int (nI (q.2.2.1 + 1)), .int (nI pl), .int wr])), ((d 1), .inl (G.2.1 0, 80, .inl s9)), ((d 5), .inl (G.2.1 0, 30, .inl l9)), ((d 6), .inl (G.2.1 0, 30, .inl (upd q.2.2.2 q.2.2.1 bu)))] H := hP
                              have hD : va_D A [((d 0), .inr (6, [.ref (d 1), .ref (d 2), .ref (d 3), .int (nI kn), .ref (d 4), .int (nI ln), .int th, .ref (d 5), .int (nI tm), .ref (d 6), .int (nI (q.2.2.1 + 1)), .int (nI pl), .int wr])), ((d 1), .inl (G.2.1 0, 80, .inl s9)), ((d 5), .inl (G.2.1 0, 30, .inl l9)), ((d 6), .inl (G.2.1 0, 30, .inl (upd q.2.2.2 q.2.2.1 bu)))] := hD
                              refine lv_iconst (v := 0) hx hb dX6_layLeft_218 (by decide) ?_
                              refine lv_istore (lv' := [(5, .int 0), (4, .int 0), (8, .int 0), (7, .int bu), (0, .ref (d 0)), (1, .int st9), (2, .int lo), (3, .int 0), (6, .int (nI i))]) hx hb dX6_layLeft_219 hl (by decide) rfl (fun ls hl => ?_)
                              refine lv_iinc (v := (nI (i + 1))) (lv' := [(6, .int (nI (i + 1))), (5, .int 0), (4, .int 0), (8, .int 0), (7, .int bu), (0, .ref (d 0)), (1, .int st9), (2, .int lo), (3, .int 0)]) hx hb dX6_layLeft_221 hl (k := 8) rfl (nI_1 i) (by decide) rfl (fun ls hl => ?_)
                              refine lv_goto (tgt := 50) hx hb dX6_layLeft_224 (by decide) ?_
                              exact ih (i + 1) (0, 0, q.2.2.1 + 1, upd q.2.2.2 q.2.2.1 bu) (by omega) (by omega) (show _ = lisS l9 lo false i (lis l9 lo false f9 i) by rw [← hq, lisS_first hev (by decide) (by rw [← ebu]; exact Int32.not_lt.mpr c_7) hk0, ← ebu]; exact Prod.ext rfl (Prod.ext (show (0 : Int32) = q.2.1 from c_8.symm) rfl)) _ _ _ (hP.sub [0, 1, 2, 3] rfl) (hD.sub [0, 1, 2, 3] (by decide) rfl) hS (lv_sub hl [5, 6, 7, 8, 2, 1, 0] rfl)
                            · have hk0 : 0 < q.2.2.1 := by have := mt (z_le (b := 0) rfl rfl (by omega) (by omega)).mpr c_15; omega
                              refine lv_aload_n hx hb dX6_layLeft_176 rfl (lv_at hl 3 rfl) ?_
                              refine va_get (D := G.1) (ci := 6) (v := .ref (d 6)) (C := RX6) (T := TX6) (N := 13) hx hb hts zi_X6_layLeft_X6 hown hK.1 hP 0 rfl rfl 9 (by decide) (hts _ zw_X6_layLeft_f25) (fun _ h9 => h9) rfl dX6_layLeft_177 ?_
                              refine lv_aload_n hx hb dX6_layLeft_180 rfl (lv_at hl 3 rfl) ?_
                              refine va_get (D := G.1) (ci := 6) (v := .int (nI q.2.2.1)) (C := RX6) (T := TX6) (N := 13) hx hb hts zi_X6_layLeft_X6 hown hK.1 hP 0 rfl rfl 10 (by decide) (hts _ zw_X6_layLeft_f46) (fun _ h9 => h9) rfl dX6_layLeft_181 ?_
                              refine lv_iload hx hb dX6_layLeft_184 (lv_at hl 7 rfl) ?_
                              refine z_iast (k := q.2.2.1) hx hb hK.1 hP hD hS 3 0 rfl rfl rfl (by omega) (by omega) dX6_layLeft_186 (fun H locs hP hD hS => ?_)
                              have hP : va_P G.1 vwCl [((d 0), .inr (6, [.ref (d 1), .ref (d 2), .ref (d 3), .int (nI kn), .ref (d 4), .int (nI ln), .int th, .ref (d 5), .int (nI tm), .ref (d 6), .int (nI q.2.2.1), .int (nI pl), .int wr])), ((d 1), .inl (G.2.1 0, 80, .inl s9)), ((d 5), .inl (G.2.1 0, 30, .inl l9)), ((d 6), .inl (G.2.1 0, 30, .inl (upd q.2.2.2 q.2.2.1 q.1)))] H := hP
                              have hD : va_D A [((d 0), .inr (6, [.ref (d 1), .ref (d 2), .ref (d 3), .int (nI kn), .ref (d 4), .int (nI ln), .int th, .ref (d 5), .int (nI tm), .ref (d 6), .int (nI q.2.2.1), .int (nI pl), .int wr])), ((d 1), .inl (G.2.1 0, 80, .inl s9)), ((d 5), .inl (G.2.1 0, 30, .inl l9)), ((d 6), .inl (G.2.1 0, 30, .inl (upd q.2.2.2 q.2.2.1 q.1)))] := hD
                              refine lv_aload_n hx hb dX6_layLeft_187 rfl (lv_at hl 3 rfl) ?_
                              refine lv_dup hx hb dX6_layLeft_188 rfl ?_
                              refine va_get (D := G.1) (ci := 6) (v := .int (nI q.2.2.1)) (C := RX6) (T := TX6) (N := 13) hx hb hts zi_X6_layLeft_X6 hown hK.1 hP 0 rfl rfl 10 (by decide) (hts _ zw_X6_layLeft_f46) (fun _ h9 => h9) rfl dX6_layLeft_189 ?_
                              refine lv_iconst (v := 1) hx hb dX6_layLeft_192 (by decide) ?_
                              refine lv_iadd hx hb dX6_layLeft_193 ?_
                              refine z_top (nI_1 _) ?_
                              refine va_put (D := G.1) (ci := 6) (v := .int (nI (q.2.2.1 + 1))) (ty := .int) (C := RX6) (T := TX6) (N := 13) hx hb hts zi_X6_layLeft_X6 tyX6 tyX6_ok nmX6 hown hK.1 hP hD hS 0 rfl rfl 10 (by decide) (hts _ zw_X6_layLeft_f46) (fun _ h9 => h9) rfl (by decide +kernel) rfl rfl (Nat.le_of_ble_eq_true rfl) dX6_layLeft_194 (fun H locs hP hD hS => ?_)
                              have hP : va_P G.1 vwCl [((d 0), .inr (6, [.ref (d 1), .ref (d 2), .ref (d 3), .int (nI kn), .ref (d 4), .int (nI ln), .int th, .ref (d 5), .int (nI tm), .ref (d 6), .int (nI (q.2.2.1 + 1)), .int (nI pl), .int wr])), ((d 1), .inl (G.2.1 0, 80, .inl s9)), ((d 5), .inl (G.2.1 0, 30, .inl l9)), ((d 6), .inl (G.2.1 0, 30, .inl (upd q.2.2.2 q.2.2.1 q.1)))] H := hP
                              have hD : va_D A [((d 0), .inr (6, [.ref (d 1), .ref (d 2), .ref (d 3), .int (nI kn), .ref (d 4), .int (nI ln), .int th, .ref (d 5), .int (nI tm), .ref (d 6), .int (nI (q.2.2.1 + 1)), .int (nI pl), .int wr])), ((d 1), .inl (G.2.1 0, 80, .inl s9)), ((d 5), .inl (G.2.1 0, 30, .inl l9)), ((d 6), .inl (G.2.1 0, 30, .inl (upd q.2.2.2 q.2.2.1 q.1)))] := hD
                              refine lv_aload_n hx hb dX6_layLeft_197 rfl (lv_at hl 3 rfl) ?_
                              refine va_get (D := G.1) (ci := 6) (v := .ref (d 6)) (C := RX6) (T := TX6) (N := 13) hx hb hts zi_X6_layLeft_X6 hown hK.1 hP 0 rfl rfl 9 (by decide) (hts _ zw_X6_layLeft_f25) (fun _ h9 => h9) rfl dX6_layLeft_198 ?_
                              refine lv_aload_n hx hb dX6_layLeft_201 rfl (lv_at hl 3 rfl) ?_
                              refine va_get (D := G.1) (ci := 6) (v := .int (nI (q.2.2.1 + 1))) (C := RX6) (T := TX6) (N := 13) hx hb hts zi_X6_layLeft_X6 hown hK.1 hP 0 rfl rfl 10 (by decide) (hts _ zw_X6_layLeft_f46) (fun _ h9 => h9) rfl dX6_layLeft_202 ?_
                              refine lv_iload hx hb dX6_layLeft_205 (lv_at hl 2 rfl) ?_
                              refine z_iast (k := (q.2.2.1 + 1)) hx hb hK.1 hP hD hS 3 0 rfl rfl rfl (by omega) (by omega) dX6_layLeft_207 (fun H locs hP hD hS => ?_)
                              have hP : va_P G.1 vwCl [((d 0), .inr (6, [.ref (d 1), .ref (d 2), .ref (d 3), .int (nI kn), .ref (d 4), .int (nI ln), .int th, .ref (d 5), .int (nI tm), .ref (d 6), .int (nI (q.2.2.1 + 1)), .int (nI pl), .int wr])), ((d 1), .inl (G.2.1 0, 80, .inl s9)), ((d 5), .inl (G.2.1 0, 30, .inl l9)), ((d 6), .inl (G.2.1 0, 30, .inl (upd (upd q.2.2.2 q.2.2.1 q.1) (q.2.2.1 + 1) bu)))] H := hP
                              have hD : va_D A [((d 0), .inr (6, [.ref (d 1), .ref (d 2), .ref (d 3), .int (nI kn), .ref (d 4), .int (nI ln), .int th, .ref (d 5), .int (nI tm), .ref (d 6), .int (nI (q.2.2.1 + 1)), .int (nI pl), .int wr])), ((d 1), .inl (G.2.1 0, 80, .inl s9)), ((d 5), .inl (G.2.1 0, 30, .inl l9)), ((d 6), .inl (G.2.1 0, 30, .inl (upd (upd q.2.2.2 q.2.2.1 q.1) (q.2.2.1 + 1) bu)))] := hD
                              refine lv_aload_n hx hb dX6_layLeft_208 rfl (lv_at hl 3 rfl) ?_
                              refine lv_dup hx hb dX6_layLeft_209 rfl ?_
                              refine va_get (D := G.1) (ci := 6) (v := .int (nI (q.2.2.1 + 1))) (C := RX6) (T := TX6) (N := 13) hx hb hts zi_X6_layLeft_X6 hown hK.1 hP 0 rfl rfl 10 (by decide) (hts _ zw_X6_layLeft_f46) (fun _ h9 => h9) rfl dX6_layLeft_210 ?_
                              refine lv_iconst (v := 1) hx hb dX6_layLeft_213 (by decide) ?_
                              refine lv_iadd hx hb dX6_layLeft_214 ?_
                              refine z_top (nI_1 _) ?_
                              refine va_put (D := G.1) (ci := 6) (v := .int (nI ((q.2.2.1 + 1) + 1))) (ty := .int) (C := RX6) (T := TX6) (N := 13) hx hb hts zi_X6_layLeft_X6 tyX6 tyX6_ok nmX6 hown hK.1 hP hD hS 0 rfl rfl 10 (by decide) (hts _ zw_X6_layLeft_f46) (fun _ h9 => h9) rfl (by decide +kernel) rfl rfl (Nat.le_of_ble_eq_true rfl) dX6_layLeft_215 (fun H locs hP hD hS => ?_)
                              have hP : va_P G.1 vwCl [((d 0), .inr (6, [.ref (d 1), .ref (d 2), .ref (d 3), .int (nI kn), .ref (d 4), .int (nI ln), .int th, .ref (d 5), .int (nI tm), .ref (d 6), .int (nI ((q.2.2.1 + 1) + 1)), .int (nI pl), .int wr])), ((d 1), .inl (G.2.1 0, 80, .inl s9)), ((d 5), .inl (G.2.1 0, 30, .inl l9)), ((d 6), .inl (G.2.1 0, 30, .inl (upd (upd q.2.2.2 q.2.2.1 q.1) (q.2.2.1 + 1) bu)))] H := hP
                              have hD : va_D A [((d 0), .inr (6, [.ref (d 1), .ref (d 2), .ref (d 3), .int (nI kn), .ref (d 4), .int (nI ln), .int th, .ref (d 5), .int (nI tm), .ref (d 6), .int (nI ((q.2.2.1 + 1) + 1)), .int (nI pl), .int wr])), ((d 1), .inl (G.2.1 0, 80, .inl s9)), ((d 5), .inl (G.2.1 0, 30, .inl l9)), ((d 6), .inl (G.2.1 0, 30, .inl (upd (upd q.2.2.2 q.2.2.1 q.1) (q.2.2.1 + 1) bu)))] := hD
                              refine lv_iconst (v := 0) hx hb dX6_layLeft_218 (by decide) ?_
                              refine lv_istore (lv' := [(5, .int 0), (4, .int 0), (8, .int 0), (7, .int bu), (0, .ref (d 0)), (1, .int st9), (2, .int lo), (3, .int 0), (6, .int (nI i))]) hx hb dX6_layLeft_219 hl (by decide) rfl (fun ls hl => ?_)
                              refine lv_iinc (v := (nI (i + 1))) (lv' := [(6, .int (nI (i + 1))), (5, .int 0), (4, .int 0), (8, .int 0), (7, .int bu), (0, .ref (d 0)), (1, .int st9), (2, .int lo), (3, .int 0)]) hx hb dX6_layLeft_221 hl (k := 8) rfl (nI_1 i) (by decide) rfl (fun ls hl => ?_)
                              refine lv_goto (tgt := 50) hx hb dX6_layLeft_224 (by decide) ?_
                              exact ih (i + 1) (0, 0, q.2.2.1 + 1 + 1, upd (upd q.2.2.2 q.2.2.1 q.1) (q.2.2.1 + 1) bu) (by omega) (by omega) (show _ = lisS l9 lo false i (lis l9 lo false f9 i) by rw [← hq, lisS_more hev (by decide) (by rw [← ebu]; exact Int32.not_lt.mpr c_7) hk0, ← ebu]; exact Prod.ext rfl (Prod.ext (show (0 : Int32) = q.2.1 from c_8.symm) rfl)) _ _ _ (hP.sub [0, 1, 2, 3] rfl) (hD.sub [0, 1, 2, 3] (by decide) rfl) hS (lv_sub hl [5, 6, 7, 8, 2, 1, 0] rfl)
                          · exact absurd rfl c_14
                      · exact absurd rfl c_12
                  · refine lv_iconst (v := 1) hx hb dX6_layLeft_122 (by decide) ?_
                    refine lv_goto (tgt := 127) hx hb dX6_layLeft_123 (by decide) ?_
                    refine lv_istore (lv' := [(8, .int 1), (7, .int bu), (0, .ref (d 0)), (1, .int st9), (2, .int lo), (3, .int 0), (4, .int q.2.1), (5, .int q.1), (6, .int (nI i))]) hx hb dX6_layLeft_127 hl (by decide) rfl (fun ls hl => ?_)
                    refine lv_iload hx hb dX6_layLeft_129 (lv_at hl 6 rfl) ?_
                    refine lv_if_ne (tgt := 139) hx hb dX6_layLeft_131 (by decide) (fun c_16 => ?_) (fun c_16 => ?_)
                    · refine lv_iconst (v := 1) hx hb dX6_layLeft_139 (by decide) ?_
                      refine lv_goto (tgt := 144) hx hb dX6_layLeft_140 (by decide) ?_
                      refine lv_istore (lv' := [(4, .int 1), (8, .int 1), (7, .int bu), (0, .ref (d 0)), (1, .int st9), (2, .int lo), (3, .int 0), (5, .int q.1), (6, .int (nI i))]) hx hb dX6_layLeft_144 hl (by decide) rfl (fun ls hl => ?_)
                      refine lv_iload hx hb dX6_layLeft_146 (lv_at hl 8 rfl) ?_
                      refine lv_iconst (v := 2) hx hb dX6_layLeft_148 (by decide) ?_
                      refine lv_irem hx hb dX6_layLeft_149 (by decide) ?_
                      refine z_top (pk_rem (a := i) (d := 2) (by omega) (by omega) (by omega)) ?_
                      refine lv_iconst (v := 1) hx hb dX6_layLeft_150 (by decide) ?_
                      refine lv_icmp_eq (tgt := 159) hx hb dX6_layLeft_151 (by decide) (fun c_17 => ?_) (fun c_17 => ?_)
                      · exact absurd ((z_eq (a := i % 2) (b := 1) rfl rfl (by omega) (by omega)).mp c_17) (by omega)
                      · refine lv_iload hx hb dX6_layLeft_154 (lv_at hl 1 rfl) ?_
                        refine lv_if_eq (tgt := 169) hx hb dX6_layLeft_156 (by decide) (fun c_18 => ?_) (fun c_18 => ?_)
                        · exact absurd c_18 (by decide)
                        · refine lv_iload hx hb dX6_layLeft_159 (lv_at hl 7 rfl) ?_
                          refine lv_iload hx hb dX6_layLeft_161 (lv_at hl 2 rfl) ?_
                          refine lv_iadd hx hb dX6_layLeft_163 ?_
                          refine lv_istore (lv' := [(5, .int (q.1 + bu)), (4, .int 1), (8, .int 1), (7, .int bu), (0, .ref (d 0)), (1, .int st9), (2, .int lo), (3, .int 0), (6, .int (nI i))]) hx hb dX6_layLeft_164 hl (by decide) rfl (fun ls hl => ?_)
                          refine lv_goto (tgt := 221) hx hb dX6_layLeft_166 (by decide) ?_
                          refine lv_iinc (v := (nI (i + 1))) (lv' := [(6, .int (nI (i + 1))), (5, .int (q.1 + bu)), (4, .int 1), (8, .int 1), (7, .int bu), (0, .ref (d 0)), (1, .int st9), (2, .int lo), (3, .int 0)]) hx hb dX6_layLeft_221 hl (k := 8) rfl (nI_1 i) (by decide) rfl (fun ls hl => ?_)
                          refine lv_goto (tgt := 50) hx hb dX6_layLeft_224 (by decide) ?_
                          exact ih (i + 1) (q.1 + bu, 1, q.2.2) (by omega) (by omega) (show _ = lisS l9 lo false i (lis l9 lo false f9 i) by rw [← hq, lisS_miss hev (Or.inr (by rw [← ebu]; exact Int32.not_le.mp c_7)), ← ebu]) _ _ _ (hP.sub [0, 1, 2, 3] rfl) (hD.sub [0, 1, 2, 3] (by decide) rfl) hS (lv_sub hl [5, 6, 7, 8, 2, 1, 0] rfl)
                    · refine lv_iload hx hb dX6_layLeft_134 (lv_at hl 0 rfl) ?_
                      refine lv_if_eq (tgt := 143) hx hb dX6_layLeft_136 (by decide) (fun c_19 => ?_) (fun c_19 => ?_)
                      · exact absurd c_19 (by decide)
                      · refine lv_iconst (v := 1) hx hb dX6_layLeft_139 (by decide) ?_
                        refine lv_goto (tgt := 144) hx hb dX6_layLeft_140 (by decide) ?_
                        refine lv_istore (lv' := [(4, .int 1), (8, .int 1), (7, .int bu), (0, .ref (d 0)), (1, .int st9), (2, .int lo), (3, .int 0), (5, .int q.1), (6, .int (nI i))]) hx hb dX6_layLeft_144 hl (by decide) rfl (fun ls hl => ?_)
                        refine lv_iload hx hb dX6_layLeft_146 (lv_at hl 8 rfl) ?_
                        refine lv_iconst (v := 2) hx hb dX6_layLeft_148 (by decide) ?_
                        refine lv_irem hx hb dX6_layLeft_149 (by decide) ?_
                        refine z_top (pk_rem (a := i) (d := 2) (by omega) (by omega) (by omega)) ?_
                        refine lv_iconst (v := 1) hx hb dX6_layLeft_150 (by decide) ?_
                        refine lv_icmp_eq (tgt := 159) hx hb dX6_layLeft_151 (by decide) (fun c_20 => ?_) (fun c_20 => ?_)
                        · exact absurd ((z_eq (a := i % 2) (b := 1) rfl rfl (by omega) (by omega)).mp c_20) (by omega)
                        · refine lv_iload hx hb dX6_layLeft_154 (lv_at hl 1 rfl) ?_
                          refine lv_if_eq (tgt := 169) hx hb dX6_layLeft_156 (by decide) (fun c_21 => ?_) (fun c_21 => ?_)
                          · exact absurd c_21 (by decide)
                          · refine lv_iload hx hb dX6_layLeft_159 (lv_at hl 7 rfl) ?_
                            refine lv_iload hx hb dX6_layLeft_161 (lv_at hl 2 rfl) ?_
                            refine lv_iadd hx hb dX6_layLeft_163 ?_
                            refine lv_istore (lv' := [(5, .int (q.1 + bu)), (4, .int 1), (8, .int 1), (7, .int bu), (0, .ref (d 0)), (1, .int st9), (2, .int lo), (3, .int 0), (6, .int (nI i))]) hx hb dX6_layLeft_164 hl (by decide) rfl (fun ls hl => ?_)
                            refine lv_goto (tgt := 221) hx hb dX6_layLeft_166 (by decide) ?_
                            refine lv_iinc (v := (nI (i + 1))) (lv' := [(6, .int (nI (i + 1))), (5, .int (q.1 + bu)), (4, .int 1), (8, .int 1), (7, .int bu), (0, .ref (d 0)), (1, .int st9), (2, .int lo), (3, .int 0)]) hx hb dX6_layLeft_221 hl (k := 8) rfl (nI_1 i) (by decide) rfl (fun ls hl => ?_)
                            refine lv_goto (tgt := 50) hx hb dX6_layLeft_224 (by decide) ?_
                            exact ih (i + 1) (q.1 + bu, 1, q.2.2) (by omega) (by omega) (show _ = lisS l9 lo false i (lis l9 lo false f9 i) by rw [← hq, lisS_miss hev (Or.inr (by rw [← ebu]; exact Int32.not_le.mp c_7)), ← ebu]) _ _ _ (hP.sub [0, 1, 2, 3] rfl) (hD.sub [0, 1, 2, 3] (by decide) rfl) hS (lv_sub hl [5, 6, 7, 8, 2, 1, 0] rfl)
            · refine lv_aload_n hx hb dX6_layLeft_90 rfl (lv_at hl 0 rfl) ?_
              refine va_get (D := G.1) (ci := 6) (v := .ref (d 5)) (C := RX6) (T := TX6) (N := 13) hx hb hts zi_X6_layLeft_X6 hown hK.1 hP 0 rfl rfl 7 (by decide) (hts _ zw_X6_layLeft_f22) (fun _ h9 => h9) rfl dX6_layLeft_91 ?_
              refine lv_iload hx hb dX6_layLeft_94 (lv_at hl 6 rfl) ?_
              refine z_iald (k := i) hx hb hK.1 hP 2 0 rfl rfl rfl (by omega) (by omega) dX6_layLeft_96 ?_
              refine lv_iload_n hx hb dX6_layLeft_97 rfl (lv_at hl 2 rfl) ?_
              refine lv_isub hx hb dX6_layLeft_98 ?_
              refine lv_goto (tgt := 103) hx hb dX6_layLeft_99 (by decide) ?_
              refine lv_topi (fun bu ebu0 => ?_)
              have ebu : bu = (if (l9 i - lo) < 0 then (0 : Int32) else (l9 i - lo)) := by rw [← zsub (hli9 i hlt hev).1 (hli9 i hlt hev).2 hlo.1 hlo.2, if_pos (Int32.not_le.mp c_4), ebu0]
              refine lv_istore (lv' := [(7, .int bu), (0, .ref (d 0)), (1, .int st9), (2, .int lo), (3, .int 0), (4, .int q.2.1), (5, .int q.1), (6, .int (nI i))]) hx hb dX6_layLeft_103 hl (by decide) rfl (fun ls hl => ?_)
              refine lv_iload hx hb dX6_layLeft_105 (lv_at hl 7 rfl) ?_
              refine lv_iconst (v := 2) hx hb dX6_layLeft_107 (by decide) ?_
              refine lv_irem hx hb dX6_layLeft_108 (by decide) ?_
              refine z_top (pk_rem (a := i) (d := 2) (by omega) (by omega) (by omega)) ?_
              refine lv_if_ne (tgt := 126) hx hb dX6_layLeft_109 (by decide) (fun c_22 => ?_) (fun c_22 => ?_)
              · exact absurd ((z_eq (a := i % 2) (b := 0) rfl rfl (by omega) (by omega)).mpr hev) c_22
              · refine lv_iload_n hx hb dX6_layLeft_112 rfl (lv_at hl 4 rfl) ?_
                refine lv_if_ne (tgt := 122) hx hb dX6_layLeft_113 (by decide) (fun c_23 => ?_) (fun c_23 => ?_)
                · exact absurd rfl c_23
                · refine lv_iload hx hb dX6_layLeft_116 (lv_at hl 0 rfl) ?_
                  refine lv_iconst (v := 2) hx hb dX6_layLeft_118 (by decide) ?_
                  refine lv_icmp_ge (tgt := 126) hx hb dX6_layLeft_119 (by decide) (fun c_24 => ?_) (fun c_24 => ?_)
                  · refine lv_iconst (v := 0) hx hb dX6_layLeft_126 (by decide) ?_
                    refine lv_istore (lv' := [(8, .int 0), (7, .int bu), (0, .ref (d 0)), (1, .int st9), (2, .int lo), (3, .int 0), (4, .int q.2.1), (5, .int q.1), (6, .int (nI i))]) hx hb dX6_layLeft_127 hl (by decide) rfl (fun ls hl => ?_)
                    refine lv_iload hx hb dX6_layLeft_129 (lv_at hl 6 rfl) ?_
                    refine lv_if_ne (tgt := 139) hx hb dX6_layLeft_131 (by decide) (fun c_25 => ?_) (fun c_25 => ?_)
                    · refine lv_iconst (v := 1) hx hb dX6_layLeft_139 (by decide) ?_
                      refine lv_goto (tgt := 144) hx hb dX6_layLeft_140 (by decide) ?_
                      refine lv_istore (lv' := [(4, .int 1), (8, .int 0), (7, .int bu), (0, .ref (d 0)), (1, .int st9), (2, .int lo), (3, .int 0), (5, .int q.1), (6, .int (nI i))]) hx hb dX6_layLeft_144 hl (by decide) rfl (fun ls hl => ?_)
                      refine lv_iload hx hb dX6_layLeft_146 (lv_at hl 8 rfl) ?_
                      refine lv_iconst (v := 2) hx hb dX6_layLeft_148 (by decide) ?_
                      refine lv_irem hx hb dX6_layLeft_149 (by decide) ?_
                      refine z_top (pk_rem (a := i) (d := 2) (by omega) (by omega) (by omega)) ?_
                      refine lv_iconst (v := 1) hx hb dX6_layLeft_150 (by decide) ?_
                      refine lv_icmp_eq (tgt := 159) hx hb dX6_layLeft_151 (by decide) (fun c_26 => ?_) (fun c_26 => ?_)
                      · exact absurd ((z_eq (a := i % 2) (b := 1) rfl rfl (by omega) (by omega)).mp c_26) (by omega)
                      · refine lv_iload hx hb dX6_layLeft_154 (lv_at hl 1 rfl) ?_
                        refine lv_if_eq (tgt := 169) hx hb dX6_layLeft_156 (by decide) (fun c_27 => ?_) (fun c_27 => ?_)
                        · refine lv_aload_n hx hb dX6_layLeft_169 rfl (lv_at hl 3 rfl) ?_
                          refine va_get (D := G.1) (ci := 6) (v := .int (nI q.2.2.1)) (C := RX6) (T := TX6) (N := 13) hx hb hts zi_X6_layLeft_X6 hown hK.1 hP 0 rfl rfl 10 (by decide) (hts _ zw_X6_layLeft_f46) (fun _ h9 => h9) rfl dX6_layLeft_170 ?_
                          refine lv_if_le (tgt := 197) hx hb dX6_layLeft_173 (by decide) (fun c_28 => ?_) (fun c_28 => ?_)
                          · have hk0 : q.2.2.1 = 0 := by have := (z_le (b := 0) rfl rfl (by omega) (by omega)).mp c_28; omega
                            refine lv_aload_n hx hb dX6_layLeft_197 rfl (lv_at hl 3 rfl) ?_
                            refine va_get (D := G.1) (ci := 6) (v := .ref (d 6)) (C := RX6) (T := TX6) (N := 13) hx hb hts zi_X6_layLeft_X6 hown hK.1 hP 0 rfl rfl 9 (by decide) (hts _ zw_X6_layLeft_f25) (fun _ h9 => h9) rfl dX6_layLeft_198 ?_
                            refine lv_aload_n hx hb dX6_layLeft_201 rfl (lv_at hl 3 rfl) ?_
                            refine va_get (D := G.1) (ci := 6) (v := .int (nI q.2.2.1)) (C := RX6) (T := TX6) (N := 13) hx hb hts zi_X6_layLeft_X6 hown hK.1 hP 0 rfl rfl 10 (by decide) (hts _ zw_X6_layLeft_f46) (fun _ h9 => h9) rfl dX6_layLeft_202 ?_
                            refine lv_iload hx hb dX6_layLeft_205 (lv_at hl 2 rfl) ?_
                            refine z_iast (k := q.2.2.1) hx hb hK.1 hP hD hS 3 0 rfl rfl rfl (by omega) (by omega) dX6_layLeft_207 (fun H locs hP hD hS => ?_)
                            have hP : va_P G.1 vwCl [((d 0), .inr (6, [.ref (d 1), .ref (d 2), .ref (d 3), .int (nI kn), .ref (d 4), .int (nI ln), .int th, .ref (d 5), .int (nI tm), .ref (d 6), .int (nI q.2.2.1), .int (nI pl), .int wr])), ((d 1), .inl (G.2.1 0, 80, .inl s9)), ((d 5), .inl (G.2.1 0, 30, .inl l9)), ((d 6), .inl (G.2.1 0, 30, .inl (upd q.2.2.2 q.2.2.1 bu)))] H := hP
                            have hD : va_D A [((d 0), .inr (6, [.ref (d 1), .ref (d 2), .ref (d 3), .int (nI kn), .ref (d 4), .int (nI ln), .int th, .ref (d 5), .int (nI tm), .ref (d 6), .int (nI q.2.2.1), .int (nI pl), .int wr])), ((d 1), .inl (G.2.1 0, 80, .inl s9)), ((d 5), .inl (G.2.1 0, 30, .inl l9)), ((d 6), .inl (G.2.1 0, 30, .inl (upd q.2.2.2 q.2.2.1 bu)))] := hD
                            refine lv_aload_n hx hb dX6_layLeft_208 rfl (lv_at hl 3 rfl) ?_
                            refine lv_dup hx hb dX6_layLeft_209 rfl ?_
                            refine va_get (D := G.1) (ci := 6) (v := .int (nI q.2.2.1)) (C := RX6) (T := TX6) (N := 13) hx hb hts zi_X6_layLeft_X6 hown hK.1 hP 0 rfl rfl 10 (by decide) (hts _ zw_X6_layLeft_f46) (fun _ h9 => h9) rfl dX6_layLeft_210 ?_
                            refine lv_iconst (v := 1) hx hb dX6_layLeft_213 (by decide) ?_
                            refine lv_iadd hx hb dX6_layLeft_214 ?_
                            refine z_top (nI_1 _) ?_
                            refine va_put (D := G.1) (ci := 6) (v := .int (nI (q.2.2.1 + 1))) (ty := .int) (C := RX6) (T := TX6) (N := 13) hx hb hts zi_X6_layLeft_X6 tyX6 tyX6_ok nmX6 hown hK.1 hP hD hS 0 rfl rfl 10 (by decide) (hts _ zw_X6_layLeft_f46) (fun _ h9 => h9) rfl (by decide +kernel) rfl rfl (Nat.le_of_ble_eq_true rfl) dX6_layLeft_215 (fun H locs hP hD hS => ?_)
                            have hP : va_P G.1 vwCl [((d 0), .inr (6, [.ref (d 1), .ref (d 2), .ref (d 3), .int (nI kn), .ref (d 4), .int (nI ln), .int th, .ref (d 5), .int (nI tm), .ref (d 6), .int (nI (q.2.2.1 + 1)), .int (nI pl), .int wr])), ((d 1), .inl (G.2.1 0, 80, .inl s9)), ((d 5), .inl (G.2.1 0, 30, .inl l9)), ((d 6), .inl (G.2.1 0, 30, .inl (upd q.2.2.2 q.2.2.1 bu)))] H := hP
                            have hD : va_D A [((d 0), .inr (6, [.ref (d 1), .ref (d 2), .ref (d 3), .int (nI kn), .ref (d 4), .int (nI ln), .int th, .ref (d 5), .int (nI tm), .ref (d 6), .int (nI (q.2.2.1 + 1)), .int (nI pl), .int wr])), ((d 1), .inl (G.2.1 0, 80, .inl s9)), ((d 5), .inl (G.2.1 0, 30, .inl l9)), ((d 6), .inl (G.2.1 0, 30, .inl (upd q.2.2.2 q.2.2.1 bu)))] := hD
                            refine lv_iconst (v := 0) hx hb dX6_layLeft_218 (by decide) ?_
                            refine lv_istore (lv' := [(5, .int 0), (4, .int 1), (8, .int 0), (7, .int bu), (0, .ref (d 0)), (1, .int st9), (2, .int lo), (3, .int 0), (6, .int (nI i))]) hx hb dX6_layLeft_219 hl (by decide) rfl (fun ls hl => ?_)
                            refine lv_iinc (v := (nI (i + 1))) (lv' := [(6, .int (nI (i + 1))), (5, .int 0), (4, .int 1), (8, .int 0), (7, .int bu), (0, .ref (d 0)), (1, .int st9), (2, .int lo), (3, .int 0)]) hx hb dX6_layLeft_221 hl (k := 8) rfl (nI_1 i) (by decide) rfl (fun ls hl => ?_)
                            refine lv_goto (tgt := 50) hx hb dX6_layLeft_224 (by decide) ?_
                            exact ih (i + 1) (0, 1, q.2.2.1 + 1, upd q.2.2.2 q.2.2.1 bu) (by omega) (by omega) (show _ = lisS l9 lo false i (lis l9 lo false f9 i) by rw [← hq, lisS_first hev (by decide) (by rw [← ebu]; exact Int32.not_lt.mpr c_24) hk0, ← ebu]; exact Prod.ext rfl (Prod.ext (hms.elim (fun z => absurd z c_25) (fun z => z.symm)) rfl)) _ _ _ (hP.sub [0, 1, 2, 3] rfl) (hD.sub [0, 1, 2, 3] (by decide) rfl) hS (lv_sub hl [5, 6, 7, 8, 2, 1, 0] rfl)
                          · have hk0 : 0 < q.2.2.1 := by have := mt (z_le (b := 0) rfl rfl (by omega) (by omega)).mpr c_28; omega
                            refine lv_aload_n hx hb dX6_layLeft_176 rfl (lv_at hl 3 rfl) ?_
                            refine va_get (D := G.1) (ci := 6) (v := .ref (d 6)) (C := RX6) (T := TX6) (N := 13) hx hb hts zi_X6_layLeft_X6 hown hK.1 hP 0 rfl rfl 9 (by decide) (hts _ zw_X6_layLeft_f25) (fun _ h9 => h9) rfl dX6_layLeft_177 ?_
                            refine lv_aload_n hx hb dX6_layLeft_180 rfl (lv_at hl 3 rfl) ?_
                            refine va_get (D := G.1) (ci := 6) (v := .int (nI q.2.2.1)) (C := RX6) (T := TX6) (N := 13) hx hb hts zi_X6_layLeft_X6 hown hK.1 hP 0 rfl rfl 10 (by decide) (hts _ zw_X6_layLeft_f46) (fun _ h9 => h9) rfl dX6_layLeft_181 ?_
                            refine lv_iload hx hb dX6_layLeft_184 (lv_at hl 7 rfl) ?_
                            refine z_iast (k := q.2.2.1) hx hb hK.1 hP hD hS 3 0 rfl rfl rfl (by omega) (by omega) dX6_layLeft_186 (fun H locs hP hD hS => ?_)
                            have hP : va_P G.1 vwCl [((d 0), .inr (6, [.ref (d 1), .ref (d 2), .ref (d 3), .int (nI kn), .ref (d 4), .int (nI ln), .int th, .ref (d 5), .int (nI tm), .ref (d 6), .int (nI q.2.2.1), .int (nI pl), .int wr])), ((d 1), .inl (G.2.1 0, 80, .inl s9)), ((d 5), .inl (G.2.1 0, 30, .inl l9)), ((d 6), .inl (G.2.1 0, 30, .inl (upd q.2.2.2 q.2.2.1 q.1)))] H := hP
                            have hD : va_D A [((d 0), .inr (6, [.ref (d 1), .ref (d 2), .ref (d 3), .int (nI kn), .ref (d 4), .int (nI ln), .int th, .ref (d 5), .int (nI tm), .ref (d 6), .int (nI q.2.2.1), .int (nI pl), .int wr])), ((d 1), .inl (G.2.1 0, 80, .inl s9)), ((d 5), .inl (G.2.1 0, 30, .inl l9)), ((d 6), .inl (G.2.1 0, 30, .inl (upd q.2.2.2 q.2.2.1 q.1)))] := hD
                            refine lv_aload_n hx hb dX6_layLeft_187 rfl (lv_at hl 3 rfl) ?_
                            refine lv_dup hx hb dX6_layLeft_188 rfl ?_
                            refine va_get (D := G.1) (ci := 6) (v := .int (nI q.2.2.1)) (C := RX6) (T := TX6) (N := 13) hx hb hts zi_X6_layLeft_X6 hown hK.1 hP 0 rfl rfl 10 (by decide) (hts _ zw_X6_layLeft_f46) (fun _ h9 => h9) rfl dX6_layLeft_189 ?_
                            refine lv_iconst (v := 1) hx hb dX6_layLeft_192 (by decide) ?_
                            refine lv_iadd hx hb dX6_layLeft_193 ?_
                            refine z_top (nI_1 _) ?_
                            refine va_put (D := G.1) (ci := 6) (v := .int (nI (q.2.2.1 + 1))) (ty := .int) (C := RX6) (T := TX6) (N := 13) hx hb hts zi_X6_layLeft_X6 tyX6 tyX6_ok nmX6 hown hK.1 hP hD hS 0 rfl rfl 10 (by decide) (hts _ zw_X6_layLeft_f46) (fun _ h9 => h9) rfl (by decide +kernel) rfl rfl (Nat.le_of_ble_eq_true rfl) dX6_layLeft_194 (fun H locs hP hD hS => ?_)
                            have hP : va_P G.1 vwCl [((d 0), .inr (6, [.ref (d 1), .ref (d 2), .ref (d 3), .int (nI kn), .ref (d 4), .int (nI ln), .int th, .ref (d 5), .int (nI tm), .ref (d 6), .int (nI (q.2.2.1 + 1)), .int (nI pl), .int wr])), ((d 1), .inl (G.2.1 0, 80, .inl s9)), ((d 5), .inl (G.2.1 0, 30, .inl l9)), ((d 6), .inl (G.2.1 0, 30, .inl (upd q.2.2.2 q.2.2.1 q.1)))] H := hP
                            have hD : va_D A [((d 0), .inr (6, [.ref (d 1), .ref (d 2), .ref (d 3), .int (nI kn), .ref (d 4), .int (nI ln), .int th, .ref (d 5), .int (nI tm), .ref (d 6), .int (nI (q.2.2.1 + 1)), .int (nI pl), .int wr])), ((d 1), .inl (G.2.1 0, 80, .inl s9)), ((d 5), .inl (G.2.1 0, 30, .inl l9)), ((d 6), .inl (G.2.1 0, 30, .inl (upd q.2.2.2 q.2.2.1 q.1)))] := hD
                            refine lv_aload_n hx hb dX6_layLeft_197 rfl (lv_at hl 3 rfl) ?_
                            refine va_get (D := G.1) (ci := 6) (v := .ref (d 6)) (C := RX6) (T := TX6) (N := 13) hx hb hts zi_X6_layLeft_X6 hown hK.1 hP 0 rfl rfl 9 (by decide) (hts _ zw_X6_layLeft_f25) (fun _ h9 => h9) rfl dX6_layLeft_198 ?_
                            refine lv_aload_n hx hb dX6_layLeft_201 rfl (lv_at hl 3 rfl) ?_
                            refine va_get (D := G.1) (ci := 6) (v := .int (nI (q.2.2.1 + 1))) (C := RX6) (T := TX6) (N := 13) hx hb hts zi_X6_layLeft_X6 hown hK.1 hP 0 rfl rfl 10 (by decide) (hts _ zw_X6_layLeft_f46) (fun _ h9 => h9) rfl dX6_layLeft_202 ?_
                            refine lv_iload hx hb dX6_layLeft_205 (lv_at hl 2 rfl) ?_
                            refine z_iast (k := (q.2.2.1 + 1)) hx hb hK.1 hP hD hS 3 0 rfl rfl rfl (by omega) (by omega) dX6_layLeft_207 (fun H locs hP hD hS => ?_)
                            have hP : va_P G.1 vwCl [((d 0), .inr (6, [.ref (d 1), .ref (d 2), .ref (d 3), .int (nI kn), .ref (d 4), .int (nI ln), .int th, .ref (d 5), .int (nI tm), .ref (d 6), .int (nI (q.2.2.1 + 1)), .int (nI pl), .int wr])), ((d 1), .inl (G.2.1 0, 80, .inl s9)), ((d 5), .inl (G.2.1 0, 30, .inl l9)), ((d 6), .inl (G.2.1 0, 30, .inl (upd (upd q.2.2.2 q.2.2.1 q.1) (q.2.2.1 + 1) bu)))] H := hP
                            have hD : va_D A [((d 0), .inr (6, [.ref (d 1), .ref (d 2), .ref (d 3), .int (nI kn), .ref (d 4), .int (nI ln), .int th, .ref (d 5), .int (nI tm), .ref (d 6), .int (nI (q.2.2.1 + 1)), .int (nI pl), .int wr])), ((d 1), .inl (G.2.1 0, 80, .inl s9)), ((d 5), .inl (G.2.1 0, 30, .inl l9)), ((d 6), .inl (G.2.1 0, 30, .inl (upd (upd q.2.2.2 q.2.2.1 q.1) (q.2.2.1 + 1) bu)))] := hD
                            refine lv_aload_n hx hb dX6_layLeft_208 rfl (lv_at hl 3 rfl) ?_
                            refine lv_dup hx hb dX6_layLeft_209 rfl ?_
                            refine va_get (D := G.1) (ci := 6) (v := .int (nI (q.2.2.1 + 1))) (C := RX6) (T := TX6) (N := 13) hx hb hts zi_X6_layLeft_X6 hown hK.1 hP 0 rfl rfl 10 (by decide) (hts _ zw_X6_layLeft_f46) (fun _ h9 => h9) rfl dX6_layLeft_210 ?_
                            refine lv_iconst (v := 1) hx hb dX6_layLeft_213 (by decide) ?_
                            refine lv_iadd hx hb dX6_layLeft_214 ?_
                            refine z_top (nI_1 _) ?_
                            refine va_put (D := G.1) (ci := 6) (v := .int (nI ((q.2.2.1 + 1) + 1))) (ty := .int) (C := RX6) (T := TX6) (N := 13) hx hb hts zi_X6_layLeft_X6 tyX6 tyX6_ok nmX6 hown hK.1 hP hD hS 0 rfl rfl 10 (by decide) (hts _ zw_X6_layLeft_f46) (fun _ h9 => h9) rfl (by decide +kernel) rfl rfl (Nat.le_of_ble_eq_true rfl) dX6_layLeft_215 (fun H locs hP hD hS => ?_)
                            have hP : va_P G.1 vwCl [((d 0), .inr (6, [.ref (d 1), .ref (d 2), .ref (d 3), .int (nI kn), .ref (d 4), .int (nI ln), .int th, .ref (d 5), .int (nI tm), .ref (d 6), .int (nI ((q.2.2.1 + 1) + 1)), .int (nI pl), .int wr])), ((d 1), .inl (G.2.1 0, 80, .inl s9)), ((d 5), .inl (G.2.1 0, 30, .inl l9)), ((d 6), .inl (G.2.1 0, 30, .inl (upd (upd q.2.2.2 q.2.2.1 q.1) (q.2.2.1 + 1) bu)))] H := hP
                            have hD : va_D A [((d 0), .inr (6, [.ref (d 1), .ref (d 2), .ref (d 3), .int (nI kn), .ref (d 4), .int (nI ln), .int th, .ref (d 5), .int (nI tm), .ref (d 6), .int (nI ((q.2.2.1 + 1) + 1)), .int (nI pl), .int wr])), ((d 1), .inl (G.2.1 0, 80, .inl s9)), ((d 5), .inl (G.2.1 0, 30, .inl l9)), ((d 6), .inl (G.2.1 0, 30, .inl (upd (upd q.2.2.2 q.2.2.1 q.1) (q.2.2.1 + 1) bu)))] := hD
                            refine lv_iconst (v := 0) hx hb dX6_layLeft_218 (by decide) ?_
                            refine lv_istore (lv' := [(5, .int 0), (4, .int 1), (8, .int 0), (7, .int bu), (0, .ref (d 0)), (1, .int st9), (2, .int lo), (3, .int 0), (6, .int (nI i))]) hx hb dX6_layLeft_219 hl (by decide) rfl (fun ls hl => ?_)
                            refine lv_iinc (v := (nI (i + 1))) (lv' := [(6, .int (nI (i + 1))), (5, .int 0), (4, .int 1), (8, .int 0), (7, .int bu), (0, .ref (d 0)), (1, .int st9), (2, .int lo), (3, .int 0)]) hx hb dX6_layLeft_221 hl (k := 8) rfl (nI_1 i) (by decide) rfl (fun ls hl => ?_)
                            refine lv_goto (tgt := 50) hx hb dX6_layLeft_224 (by decide) ?_
                            exact ih (i + 1) (0, 1, q.2.2.1 + 1 + 1, upd (upd q.2.2.2 q.2.2.1 q.1) (q.2.2.1 + 1) bu) (by omega) (by omega) (show _ = lisS l9 lo false i (lis l9 lo false f9 i) by rw [← hq, lisS_more hev (by decide) (by rw [← ebu]; exact Int32.not_lt.mpr c_24) hk0, ← ebu]; exact Prod.ext rfl (Prod.ext (hms.elim (fun z => absurd z c_25) (fun z => z.symm)) rfl)) _ _ _ (hP.sub [0, 1, 2, 3] rfl) (hD.sub [0, 1, 2, 3] (by decide) rfl) hS (lv_sub hl [5, 6, 7, 8, 2, 1, 0] rfl)
                        · exact absurd rfl c_27
                    · refine lv_iload hx hb dX6_layLeft_134 (lv_at hl 0 rfl) ?_
                      refine lv_if_eq (tgt := 143) hx hb dX6_layLeft_136 (by decide) (fun c_29 => ?_) (fun c_29 => ?_)
                      · refine lv_iconst (v := 0) hx hb dX6_layLeft_143 (by decide) ?_
                        refine lv_istore (lv' := [(4, .int 0), (8, .int 0), (7, .int bu), (0, .ref (d 0)), (1, .int st9), (2, .int lo), (3, .int 0), (5, .int q.1), (6, .int (nI i))]) hx hb dX6_layLeft_144 hl (by decide) rfl (fun ls hl => ?_)
                        refine lv_iload hx hb dX6_layLeft_146 (lv_at hl 8 rfl) ?_
                        refine lv_iconst (v := 2) hx hb dX6_layLeft_148 (by decide) ?_
                        refine lv_irem hx hb dX6_layLeft_149 (by decide) ?_
                        refine z_top (pk_rem (a := i) (d := 2) (by omega) (by omega) (by omega)) ?_
                        refine lv_iconst (v := 1) hx hb dX6_layLeft_150 (by decide) ?_
                        refine lv_icmp_eq (tgt := 159) hx hb dX6_layLeft_151 (by decide) (fun c_30 => ?_) (fun c_30 => ?_)
                        · exact absurd ((z_eq (a := i % 2) (b := 1) rfl rfl (by omega) (by omega)).mp c_30) (by omega)
                        · refine lv_iload hx hb dX6_layLeft_154 (lv_at hl 1 rfl) ?_
                          refine lv_if_eq (tgt := 169) hx hb dX6_layLeft_156 (by decide) (fun c_31 => ?_) (fun c_31 => ?_)
                          · refine lv_aload_n hx hb dX6_layLeft_169 rfl (lv_at hl 3 rfl) ?_
                            refine va_get (D := G.1) (ci := 6) (v := .int (nI q.2.2.1)) (C := RX6) (T := TX6) (N := 13) hx hb hts zi_X6_layLeft_X6 hown hK.1 hP 0 rfl rfl 10 (by decide) (hts _ zw_X6_layLeft_f46) (fun _ h9 => h9) rfl dX6_layLeft_170 ?_
                            refine lv_if_le (tgt := 197) hx hb dX6_layLeft_173 (by decide) (fun c_32 => ?_) (fun c_32 => ?_)
                            · have hk0 : q.2.2.1 = 0 := by have := (z_le (b := 0) rfl rfl (by omega) (by omega)).mp c_32; omega
                              refine lv_aload_n hx hb dX6_layLeft_197 rfl (lv_at hl 3 rfl) ?_
                              refine va_get (D := G.1) (ci := 6) (v := .ref (d 6)) (C := RX6) (T := TX6) (N := 13) hx hb hts zi_X6_layLeft_X6 hown hK.1 hP 0 rfl rfl 9 (by decide) (hts _ zw_X6_layLeft_f25) (fun _ h9 => h9) rfl dX6_layLeft_198 ?_
                              refine lv_aload_n hx hb dX6_layLeft_201 rfl (lv_at hl 3 rfl) ?_
                              refine va_get (D := G.1) (ci := 6) (v := .int (nI q.2.2.1)) (C := RX6) (T := TX6) (N := 13) hx hb hts zi_X6_layLeft_X6 hown hK.1 hP 0 rfl rfl 10 (by decide) (hts _ zw_X6_layLeft_f46) (fun _ h9 => h9) rfl dX6_layLeft_202 ?_
                              refine lv_iload hx hb dX6_layLeft_205 (lv_at hl 2 rfl) ?_
                              refine z_iast (k := q.2.2.1) hx hb hK.1 hP hD hS 3 0 rfl rfl rfl (by omega) (by omega) dX6_layLeft_207 (fun H locs hP hD hS => ?_)
                              have hP : va_P G.1 vwCl [((d 0), .inr (6, [.ref (d 1), .ref (d 2), .ref (d 3), .int (nI kn), .ref (d 4), .int (nI ln), .int th, .ref (d 5), .int (nI tm), .ref (d 6), .int (nI q.2.2.1), .int (nI pl), .int wr])), ((d 1), .inl (G.2.1 0, 80, .inl s9)), ((d 5), .inl (G.2.1 0, 30, .inl l9)), ((d 6), .inl (G.2.1 0, 30, .inl (upd q.2.2.2 q.2.2.1 bu)))] H := hP
                              have hD : va_D A [((d 0), .inr (6, [.ref (d 1), .ref (d 2), .ref (d 3), .int (nI kn), .ref (d 4), .int (nI ln), .int th, .ref (d 5), .int (nI tm), .ref (d 6), .int (nI q.2.2.1), .int (nI pl), .int wr])), ((d 1), .inl (G.2.1 0, 80, .inl s9)), ((d 5), .inl (G.2.1 0, 30, .inl l9)), ((d 6), .inl (G.2.1 0, 30, .inl (upd q.2.2.2 q.2.2.1 bu)))] := hD
                              refine lv_aload_n hx hb dX6_layLeft_208 rfl (lv_at hl 3 rfl) ?_
                              refine lv_dup hx hb dX6_layLeft_209 rfl ?_
                              refine va_get (D := G.1) (ci := 6) (v := .int (nI q.2.2.1)) (C := RX6) (T := TX6) (N := 13) hx hb hts zi_X6_layLeft_X6 hown hK.1 hP 0 rfl rfl 10 (by decide) (hts _ zw_X6_layLeft_f46) (fun _ h9 => h9) rfl dX6_layLeft_210 ?_
                              refine lv_iconst (v := 1) hx hb dX6_layLeft_213 (by decide) ?_
                              refine lv_iadd hx hb dX6_layLeft_214 ?_
                              refine z_top (nI_1 _) ?_
                              refine va_put (D := G.1) (ci := 6) (v := .int (nI (q.2.2.1 + 1))) (ty := .int) (C := RX6) (T := TX6) (N := 13) hx hb hts zi_X6_layLeft_X6 tyX6 tyX6_ok nmX6 hown hK.1 hP hD hS 0 rfl rfl 10 (by decide) (hts _ zw_X6_layLeft_f46) (fun _ h9 => h9) rfl (by decide +kernel) rfl rfl (Nat.le_of_ble_eq_true rfl) dX6_layLeft_215 (fun H locs hP hD hS => ?_)
                              have hP : va_P G.1 vwCl [((d 0), .inr (6, [.ref (d 1), .ref (d 2), .ref (d 3), .int (nI kn), .ref (d 4), .int (nI ln), .int th, .ref (d 5), .int (nI tm), .ref (d 6), .int (nI (q.2.2.1 + 1)), .int (nI pl), .int wr])), ((d 1), .inl (G.2.1 0, 80, .inl s9)), ((d 5), .inl (G.2.1 0, 30, .inl l9)), ((d 6), .inl (G.2.1 0, 30, .inl (upd q.2.2.2 q.2.2.1 bu)))] H := hP
                              have hD : va_D A [((d 0), .inr (6, [.ref (d 1), .ref (d 2), .ref (d 3), .int (nI kn), .ref (d 4), .int (nI ln), .int th, .ref (d 5), .int (nI tm), .ref (d 6), .int (nI (q.2.2.1 + 1)), .int (nI pl), .int wr])), ((d 1), .inl (G.2.1 0, 80, .inl s9)), ((d 5), .inl (G.2.1 0, 30, .inl l9)), ((d 6), .inl (G.2.1 0, 30, .inl (upd q.2.2.2 q.2.2.1 bu)))] := hD
                              refine lv_iconst (v := 0) hx hb dX6_layLeft_218 (by decide) ?_
                              refine lv_istore (lv' := [(5, .int 0), (4, .int 0), (8, .int 0), (7, .int bu), (0, .ref (d 0)), (1, .int st9), (2, .int lo), (3, .int 0), (6, .int (nI i))]) hx hb dX6_layLeft_219 hl (by decide) rfl (fun ls hl => ?_)
                              refine lv_iinc (v := (nI (i + 1))) (lv' := [(6, .int (nI (i + 1))), (5, .int 0), (4, .int 0), (8, .int 0), (7, .int bu), (0, .ref (d 0)), (1, .int st9), (2, .int lo), (3, .int 0)]) hx hb dX6_layLeft_221 hl (k := 8) rfl (nI_1 i) (by decide) rfl (fun ls hl => ?_)
                              refine lv_goto (tgt := 50) hx hb dX6_layLeft_224 (by decide) ?_
                              exact ih (i + 1) (0, 0, q.2.2.1 + 1, upd q.2.2.2 q.2.2.1 bu) (by omega) (by omega) (show _ = lisS l9 lo false i (lis l9 lo false f9 i) by rw [← hq, lisS_first hev (by decide) (by rw [← ebu]; exact Int32.not_lt.mpr c_24) hk0, ← ebu]; exact Prod.ext rfl (Prod.ext (show (0 : Int32) = q.2.1 from c_25.symm) rfl)) _ _ _ (hP.sub [0, 1, 2, 3] rfl) (hD.sub [0, 1, 2, 3] (by decide) rfl) hS (lv_sub hl [5, 6, 7, 8, 2, 1, 0] rfl)
                            · have hk0 : 0 < q.2.2.1 := by have := mt (z_le (b := 0) rfl rfl (by omega) (by omega)).mpr c_32; omega
                              refine lv_aload_n hx hb dX6_layLeft_176 rfl (lv_at hl 3 rfl) ?_
                              refine va_get (D := G.1) (ci := 6) (v := .ref (d 6)) (C := RX6) (T := TX6) (N := 13) hx hb hts zi_X6_layLeft_X6 hown hK.1 hP 0 rfl rfl 9 (by decide) (hts _ zw_X6_layLeft_f25) (fun _ h9 => h9) rfl dX6_layLeft_177 ?_
                              refine lv_aload_n hx hb dX6_layLeft_180 rfl (lv_at hl 3 rfl) ?_
                              refine va_get (D := G.1) (ci := 6) (v := .int (nI q.2.2.1)) (C := RX6) (T := TX6) (N := 13) hx hb hts zi_X6_layLeft_X6 hown hK.1 hP 0 rfl rfl 10 (by decide) (hts _ zw_X6_layLeft_f46) (fun _ h9 => h9) rfl dX6_layLeft_181 ?_
                              refine lv_iload hx hb dX6_layLeft_184 (lv_at hl 7 rfl) ?_
                              refine z_iast (k := q.2.2.1) hx hb hK.1 hP hD hS 3 0 rfl rfl rfl (by omega) (by omega) dX6_layLeft_186 (fun H locs hP hD hS => ?_)
                              have hP : va_P G.1 vwCl [((d 0), .inr (6, [.ref (d 1), .ref (d 2), .ref (d 3), .int (nI kn), .ref (d 4), .int (nI ln), .int th, .ref (d 5), .int (nI tm), .ref (d 6), .int (nI q.2.2.1), .int (nI pl), .int wr])), ((d 1), .inl (G.2.1 0, 80, .inl s9)), ((d 5), .inl (G.2.1 0, 30, .inl l9)), ((d 6), .inl (G.2.1 0, 30, .inl (upd q.2.2.2 q.2.2.1 q.1)))] H := hP
                              have hD : va_D A [((d 0), .inr (6, [.ref (d 1), .ref (d 2), .ref (d 3), .int (nI kn), .ref (d 4), .int (nI ln), .int th, .ref (d 5), .int (nI tm), .ref (d 6), .int (nI q.2.2.1), .int (nI pl), .int wr])), ((d 1), .inl (G.2.1 0, 80, .inl s9)), ((d 5), .inl (G.2.1 0, 30, .inl l9)), ((d 6), .inl (G.2.1 0, 30, .inl (upd q.2.2.2 q.2.2.1 q.1)))] := hD
                              refine lv_aload_n hx hb dX6_layLeft_187 rfl (lv_at hl 3 rfl) ?_
                              refine lv_dup hx hb dX6_layLeft_188 rfl ?_
                              refine va_get (D := G.1) (ci := 6) (v := .int (nI q.2.2.1)) (C := RX6) (T := TX6) (N := 13) hx hb hts zi_X6_layLeft_X6 hown hK.1 hP 0 rfl rfl 10 (by decide) (hts _ zw_X6_layLeft_f46) (fun _ h9 => h9) rfl dX6_layLeft_189 ?_
                              refine lv_iconst (v := 1) hx hb dX6_layLeft_192 (by decide) ?_
                              refine lv_iadd hx hb dX6_layLeft_193 ?_
                              refine z_top (nI_1 _) ?_
                              refine va_put (D := G.1) (ci := 6) (v := .int (nI (q.2.2.1 + 1))) (ty := .int) (C := RX6) (T := TX6) (N := 13) hx hb hts zi_X6_layLeft_X6 tyX6 tyX6_ok nmX6 hown hK.1 hP hD hS 0 rfl rfl 10 (by decide) (hts _ zw_X6_layLeft_f46) (fun _ h9 => h9) rfl (by decide +kernel) rfl rfl (Nat.le_of_ble_eq_true rfl) dX6_layLeft_194 (fun H locs hP hD hS => ?_)
                              have hP : va_P G.1 vwCl [((d 0), .inr (6, [.ref (d 1), .ref (d 2), .ref (d 3), .int (nI kn), .ref (d 4), .int (nI ln), .int th, .ref (d 5), .int (nI tm), .ref (d 6), .int (nI (q.2.2.1 + 1)), .int (nI pl), .int wr])), ((d 1), .inl (G.2.1 0, 80, .inl s9)), ((d 5), .inl (G.2.1 0, 30, .inl l9)), ((d 6), .inl (G.2.1 0, 30, .inl (upd q.2.2.2 q.2.2.1 q.1)))] H := hP
                              have hD : va_D A [((d 0), .inr (6, [.ref (d 1), .ref (d 2), .ref (d 3), .int (nI kn), .ref (d 4), .int (nI ln), .int th, .ref (d 5), .int (nI tm), .ref (d 6), .int (nI (q.2.2.1 + 1)), .int (nI pl), .int wr])), ((d 1), .inl (G.2.1 0, 80, .inl s9)), ((d 5), .inl (G.2.1 0, 30, .inl l9)), ((d 6), .inl (G.2.1 0, 30, .inl (upd q.2.2.2 q.2.2.1 q.1)))] := hD
                              refine lv_aload_n hx hb dX6_layLeft_197 rfl (lv_at hl 3 rfl) ?_
                              refine va_get (D := G.1) (ci := 6) (v := .ref (d 6)) (C := RX6) (T := TX6) (N := 13) hx hb hts zi_X6_layLeft_X6 hown hK.1 hP 0 rfl rfl 9 (by decide) (hts _ zw_X6_layLeft_f25) (fun _ h9 => h9) rfl dX6_layLeft_198 ?_
                              refine lv_aload_n hx hb dX6_layLeft_201 rfl (lv_at hl 3 rfl) ?_
                              refine va_get (D := G.1) (ci := 6) (v := .int (nI (q.2.2.1 + 1))) (C := RX6) (T := TX6) (N := 13) hx hb hts zi_X6_layLeft_X6 hown hK.1 hP 0 rfl rfl 10 (by decide) (hts _ zw_X6_layLeft_f46) (fun _ h9 => h9) rfl dX6_layLeft_202 ?_
                              refine lv_iload hx hb dX6_layLeft_205 (lv_at hl 2 rfl) ?_
                              refine z_iast (k := (q.2.2.1 + 1)) hx hb hK.1 hP hD hS 3 0 rfl rfl rfl (by omega) (by omega) dX6_layLeft_207 (fun H locs hP hD hS => ?_)
                              have hP : va_P G.1 vwCl [((d 0), .inr (6, [.ref (d 1), .ref (d 2), .ref (d 3), .int (nI kn), .ref (d 4), .int (nI ln), .int th, .ref (d 5), .int (nI tm), .ref (d 6), .int (nI (q.2.2.1 + 1)), .int (nI pl), .int wr])), ((d 1), .inl (G.2.1 0, 80, .inl s9)), ((d 5), .inl (G.2.1 0, 30, .inl l9)), ((d 6), .inl (G.2.1 0, 30, .inl (upd (upd q.2.2.2 q.2.2.1 q.1) (q.2.2.1 + 1) bu)))] H := hP
                              have hD : va_D A [((d 0), .inr (6, [.ref (d 1), .ref (d 2), .ref (d 3), .int (nI kn), .ref (d 4), .int (nI ln), .int th, .ref (d 5), .int (nI tm), .ref (d 6), .int (nI (q.2.2.1 + 1)), .int (nI pl), .int wr])), ((d 1), .inl (G.2.1 0, 80, .inl s9)), ((d 5), .inl (G.2.1 0, 30, .inl l9)), ((d 6), .inl (G.2.1 0, 30, .inl (upd (upd q.2.2.2 q.2.2.1 q.1) (q.2.2.1 + 1) bu)))] := hD
                              refine lv_aload_n hx hb dX6_layLeft_208 rfl (lv_at hl 3 rfl) ?_
                              refine lv_dup hx hb dX6_layLeft_209 rfl ?_
                              refine va_get (D := G.1) (ci := 6) (v := .int (nI (q.2.2.1 + 1))) (C := RX6) (T := TX6) (N := 13) hx hb hts zi_X6_layLeft_X6 hown hK.1 hP 0 rfl rfl 10 (by decide) (hts _ zw_X6_layLeft_f46) (fun _ h9 => h9) rfl dX6_layLeft_210 ?_
                              refine lv_iconst (v := 1) hx hb dX6_layLeft_213 (by decide) ?_
                              refine lv_iadd hx hb dX6_layLeft_214 ?_
                              refine z_top (nI_1 _) ?_
                              refine va_put (D := G.1) (ci := 6) (v := .int (nI ((q.2.2.1 + 1) + 1))) (ty := .int) (C := RX6) (T := TX6) (N := 13) hx hb hts zi_X6_layLeft_X6 tyX6 tyX6_ok nmX6 hown hK.1 hP hD hS 0 rfl rfl 10 (by decide) (hts _ zw_X6_layLeft_f46) (fun _ h9 => h9) rfl (by decide +kernel) rfl rfl (Nat.le_of_ble_eq_true rfl) dX6_layLeft_215 (fun H locs hP hD hS => ?_)
                              have hP : va_P G.1 vwCl [((d 0), .inr (6, [.ref (d 1), .ref (d 2), .ref (d 3), .int (nI kn), .ref (d 4), .int (nI ln), .int th, .ref (d 5), .int (nI tm), .ref (d 6), .int (nI ((q.2.2.1 + 1) + 1)), .int (nI pl), .int wr])), ((d 1), .inl (G.2.1 0, 80, .inl s9)), ((d 5), .inl (G.2.1 0, 30, .inl l9)), ((d 6), .inl (G.2.1 0, 30, .inl (upd (upd q.2.2.2 q.2.2.1 q.1) (q.2.2.1 + 1) bu)))] H := hP
                              have hD : va_D A [((d 0), .inr (6, [.ref (d 1), .ref (d 2), .ref (d 3), .int (nI kn), .ref (d 4), .int (nI ln), .int th, .ref (d 5), .int (nI tm), .ref (d 6), .int (nI ((q.2.2.1 + 1) + 1)), .int (nI pl), .int wr])), ((d 1), .inl (G.2.1 0, 80, .inl s9)), ((d 5), .inl (G.2.1 0, 30, .inl l9)), ((d 6), .inl (G.2.1 0, 30, .inl (upd (upd q.2.2.2 q.2.2.1 q.1) (q.2.2.1 + 1) bu)))] := hD
                              refine lv_iconst (v := 0) hx hb dX6_layLeft_218 (by decide) ?_
                              refine lv_istore (lv' := [(5, .int 0), (4, .int 0), (8, .int 0), (7, .int bu), (0, .ref (d 0)), (1, .int st9), (2, .int lo), (3, .int 0), (6, .int (nI i))]) hx hb dX6_layLeft_219 hl (by decide) rfl (fun ls hl => ?_)
                              refine lv_iinc (v := (nI (i + 1))) (lv' := [(6, .int (nI (i + 1))), (5, .int 0), (4, .int 0), (8, .int 0), (7, .int bu), (0, .ref (d 0)), (1, .int st9), (2, .int lo), (3, .int 0)]) hx hb dX6_layLeft_221 hl (k := 8) rfl (nI_1 i) (by decide) rfl (fun ls hl => ?_)
                              refine lv_goto (tgt := 50) hx hb dX6_layLeft_224 (by decide) ?_
                              exact ih (i + 1) (0, 0, q.2.2.1 + 1 + 1, upd (upd q.2.2.2 q.2.2.1 q.1) (q.2.2.1 + 1) bu) (by omega) (by omega) (show _ = lisS l9 lo false i (lis l9 lo false f9 i) by rw [← hq, lisS_more hev (by decide) (by rw [← ebu]; exact Int32.not_lt.mpr c_24) hk0, ← ebu]; exact Prod.ext rfl (Prod.ext (show (0 : Int32) = q.2.1 from c_25.symm) rfl)) _ _ _ (hP.sub [0, 1, 2, 3] rfl) (hD.sub [0, 1, 2, 3] (by decide) rfl) hS (lv_sub hl [5, 6, 7, 8, 2, 1, 0] rfl)
                          · exact absurd rfl c_31
                      · exact absurd rfl c_29
                  · refine lv_iconst (v := 1) hx hb dX6_layLeft_122 (by decide) ?_
                    refine lv_goto (tgt := 127) hx hb dX6_layLeft_123 (by decide) ?_
                    refine lv_istore (lv' := [(8, .int 1), (7, .int bu), (0, .ref (d 0)), (1, .int st9), (2, .int lo), (3, .int 0), (4, .int q.2.1), (5, .int q.1), (6, .int (nI i))]) hx hb dX6_layLeft_127 hl (by decide) rfl (fun ls hl => ?_)
                    refine lv_iload hx hb dX6_layLeft_129 (lv_at hl 6 rfl) ?_
                    refine lv_if_ne (tgt := 139) hx hb dX6_layLeft_131 (by decide) (fun c_33 => ?_) (fun c_33 => ?_)
                    · refine lv_iconst (v := 1) hx hb dX6_layLeft_139 (by decide) ?_
                      refine lv_goto (tgt := 144) hx hb dX6_layLeft_140 (by decide) ?_
                      refine lv_istore (lv' := [(4, .int 1), (8, .int 1), (7, .int bu), (0, .ref (d 0)), (1, .int st9), (2, .int lo), (3, .int 0), (5, .int q.1), (6, .int (nI i))]) hx hb dX6_layLeft_144 hl (by decide) rfl (fun ls hl => ?_)
                      refine lv_iload hx hb dX6_layLeft_146 (lv_at hl 8 rfl) ?_
                      refine lv_iconst (v := 2) hx hb dX6_layLeft_148 (by decide) ?_
                      refine lv_irem hx hb dX6_layLeft_149 (by decide) ?_
                      refine z_top (pk_rem (a := i) (d := 2) (by omega) (by omega) (by omega)) ?_
                      refine lv_iconst (v := 1) hx hb dX6_layLeft_150 (by decide) ?_
                      refine lv_icmp_eq (tgt := 159) hx hb dX6_layLeft_151 (by decide) (fun c_34 => ?_) (fun c_34 => ?_)
                      · exact absurd ((z_eq (a := i % 2) (b := 1) rfl rfl (by omega) (by omega)).mp c_34) (by omega)
                      · refine lv_iload hx hb dX6_layLeft_154 (lv_at hl 1 rfl) ?_
                        refine lv_if_eq (tgt := 169) hx hb dX6_layLeft_156 (by decide) (fun c_35 => ?_) (fun c_35 => ?_)
                        · exact absurd c_35 (by decide)
                        · refine lv_iload hx hb dX6_layLeft_159 (lv_at hl 7 rfl) ?_
                          refine lv_iload hx hb dX6_layLeft_161 (lv_at hl 2 rfl) ?_
                          refine lv_iadd hx hb dX6_layLeft_163 ?_
                          refine lv_istore (lv' := [(5, .int (q.1 + bu)), (4, .int 1), (8, .int 1), (7, .int bu), (0, .ref (d 0)), (1, .int st9), (2, .int lo), (3, .int 0), (6, .int (nI i))]) hx hb dX6_layLeft_164 hl (by decide) rfl (fun ls hl => ?_)
                          refine lv_goto (tgt := 221) hx hb dX6_layLeft_166 (by decide) ?_
                          refine lv_iinc (v := (nI (i + 1))) (lv' := [(6, .int (nI (i + 1))), (5, .int (q.1 + bu)), (4, .int 1), (8, .int 1), (7, .int bu), (0, .ref (d 0)), (1, .int st9), (2, .int lo), (3, .int 0)]) hx hb dX6_layLeft_221 hl (k := 8) rfl (nI_1 i) (by decide) rfl (fun ls hl => ?_)
                          refine lv_goto (tgt := 50) hx hb dX6_layLeft_224 (by decide) ?_
                          exact ih (i + 1) (q.1 + bu, 1, q.2.2) (by omega) (by omega) (show _ = lisS l9 lo false i (lis l9 lo false f9 i) by rw [← hq, lisS_miss hev (Or.inr (by rw [← ebu]; exact Int32.not_le.mp c_24)), ← ebu]) _ _ _ (hP.sub [0, 1, 2, 3] rfl) (hD.sub [0, 1, 2, 3] (by decide) rfl) hS (lv_sub hl [5, 6, 7, 8, 2, 1, 0] rfl)
                    · refine lv_iload hx hb dX6_layLeft_134 (lv_at hl 0 rfl) ?_
                      refine lv_if_eq (tgt := 143) hx hb dX6_layLeft_136 (by decide) (fun c_36 => ?_) (fun c_36 => ?_)
                      · exact absurd c_36 (by decide)
                      · refine lv_iconst (v := 1) hx hb dX6_layLeft_139 (by decide) ?_
                        refine lv_goto (tgt := 144) hx hb dX6_layLeft_140 (by decide) ?_
                        refine lv_istore (lv' := [(4, .int 1), (8, .int 1), (7, .int bu), (0, .ref (d 0)), (1, .int st9), (2, .int lo), (3, .int 0), (5, .int q.1), (6, .int (nI i))]) hx hb dX6_layLeft_144 hl (by decide) rfl (fun ls hl => ?_)
                        refine lv_iload hx hb dX6_layLeft_146 (lv_at hl 8 rfl) ?_
                        refine lv_iconst (v := 2) hx hb dX6_layLeft_148 (by decide) ?_
                        refine lv_irem hx hb dX6_layLeft_149 (by decide) ?_
                        refine z_top (pk_rem (a := i) (d := 2) (by omega) (by omega) (by omega)) ?_
                        refine lv_iconst (v := 1) hx hb dX6_layLeft_150 (by decide) ?_
                        refine lv_icmp_eq (tgt := 159) hx hb dX6_layLeft_151 (by decide) (fun c_37 => ?_) (fun c_37 => ?_)
                        · exact absurd ((z_eq (a := i % 2) (b := 1) rfl rfl (by omega) (by omega)).mp c_37) (by omega)
                        · refine lv_iload hx hb dX6_layLeft_154 (lv_at hl 1 rfl) ?_
                          refine lv_if_eq (tgt := 169) hx hb dX6_layLeft_156 (by decide) (fun c_38 => ?_) (fun c_38 => ?_)
                          · exact absurd c_38 (by decide)
                          · refine lv_iload hx hb dX6_layLeft_159 (lv_at hl 7 rfl) ?_
                            refine lv_iload hx hb dX6_layLeft_161 (lv_at hl 2 rfl) ?_
                            refine lv_iadd hx hb dX6_layLeft_163 ?_
                            refine lv_istore (lv' := [(5, .int (q.1 + bu)), (4, .int 1), (8, .int 1), (7, .int bu), (0, .ref (d 0)), (1, .int st9), (2, .int lo), (3, .int 0), (6, .int (nI i))]) hx hb dX6_layLeft_164 hl (by decide) rfl (fun ls hl => ?_)
                            refine lv_goto (tgt := 221) hx hb dX6_layLeft_166 (by decide) ?_
                            refine lv_iinc (v := (nI (i + 1))) (lv' := [(6, .int (nI (i + 1))), (5, .int (q.1 + bu)), (4, .int 1), (8, .int 1), (7, .int bu), (0, .ref (d 0)), (1, .int st9), (2, .int lo), (3, .int 0)]) hx hb dX6_layLeft_221 hl (k := 8) rfl (nI_1 i) (by decide) rfl (fun ls hl => ?_)
                            refine lv_goto (tgt := 50) hx hb dX6_layLeft_224 (by decide) ?_
                            exact ih (i + 1) (q.1 + bu, 1, q.2.2) (by omega) (by omega) (show _ = lisS l9 lo false i (lis l9 lo false f9 i) by rw [← hq, lisS_miss hev (Or.inr (by rw [← ebu]; exact Int32.not_le.mp c_24)), ← ebu]) _ _ _ (hP.sub [0, 1, 2, 3] rfl) (hD.sub [0, 1, 2, 3] (by decide) rfl) hS (lv_sub hl [5, 6, 7, 8, 2, 1, 0] rfl)
          · have hodd : i % 2 = 1 := (z_eq (a := i % 2) (b := 1) rfl rfl (by omega) (by omega)).mp c_3
            refine lv_aload_n hx hb dX6_layLeft_67 rfl (lv_at hl 0 rfl) ?_
            refine va_get (D := G.1) (ci := 6) (v := .ref (d 5)) (C := RX6) (T := TX6) (N := 13) hx hb hts zi_X6_layLeft_X6 hown hK.1 hP 0 rfl rfl 7 (by decide) (hts _ zw_X6_layLeft_f22) (fun _ h9 => h9) rfl dX6_layLeft_68 ?_
            refine lv_iload hx hb dX6_layLeft_71 (lv_at hl 6 rfl) ?_
            refine z_iald (k := i) hx hb hK.1 hP 2 0 rfl rfl rfl (by omega) (by omega) dX6_layLeft_73 ?_
            refine lv_iload_n hx hb dX6_layLeft_74 rfl (lv_at hl 2 rfl) ?_
            refine lv_iadd hx hb dX6_layLeft_75 ?_
            refine lv_goto (tgt := 103) hx hb dX6_layLeft_76 (by decide) ?_
            refine lv_istore (lv' := [(7, .int ((l9 i) + lo)), (0, .ref (d 0)), (1, .int st9), (2, .int lo), (3, .int 0), (4, .int q.2.1), (5, .int q.1), (6, .int (nI i))]) hx hb dX6_layLeft_103 hl (by decide) rfl (fun ls hl => ?_)
            refine lv_iload hx hb dX6_layLeft_105 (lv_at hl 7 rfl) ?_
            refine lv_iconst (v := 2) hx hb dX6_layLeft_107 (by decide) ?_
            refine lv_irem hx hb dX6_layLeft_108 (by decide) ?_
            refine z_top (pk_rem (a := i) (d := 2) (by omega) (by omega) (by omega)) ?_
            refine lv_if_ne (tgt := 126) hx hb dX6_layLeft_109 (by decide) (fun c_39 => ?_) (fun c_39 => ?_)
            · refine lv_iconst (v := 0) hx hb dX6_layLeft_126 (by decide) ?_
              refine lv_istore (lv' := [(8, .int 0), (7, .int ((l9 i) + lo)), (0, .ref (d 0)), (1, .int st9), (2, .int lo), (3, .int 0), (4, .int q.2.1), (5, .int q.1), (6, .int (nI i))]) hx hb dX6_layLeft_127 hl (by decide) rfl (fun ls hl => ?_)
              refine lv_iload hx hb dX6_layLeft_129 (lv_at hl 6 rfl) ?_
              refine lv_if_ne (tgt := 139) hx hb dX6_layLeft_131 (by decide) (fun c_40 => ?_) (fun c_40 => ?_)
              · refine lv_iconst (v := 1) hx hb dX6_layLeft_139 (by decide) ?_
                refine lv_goto (tgt := 144) hx hb dX6_layLeft_140 (by decide) ?_
                refine lv_istore (lv' := [(4, .int 1), (8, .int 0), (7, .int ((l9 i) + lo)), (0, .ref (d 0)), (1, .int st9), (2, .int lo), (3, .int 0), (5, .int q.1), (6, .int (nI i))]) hx hb dX6_layLeft_144 hl (by decide) rfl (fun ls hl => ?_)
                refine lv_iload hx hb dX6_layLeft_146 (lv_at hl 8 rfl) ?_
                refine lv_iconst (v := 2) hx hb dX6_layLeft_148 (by decide) ?_
                refine lv_irem hx hb dX6_layLeft_149 (by decide) ?_
                refine z_top (pk_rem (a := i) (d := 2) (by omega) (by omega) (by omega)) ?_
                refine lv_iconst (v := 1) hx hb dX6_layLeft_150 (by decide) ?_
                refine lv_icmp_eq (tgt := 159) hx hb dX6_layLeft_151 (by decide) (fun c_41 => ?_) (fun c_41 => ?_)
                · refine lv_iload hx hb dX6_layLeft_159 (lv_at hl 7 rfl) ?_
                  refine lv_iload hx hb dX6_layLeft_161 (lv_at hl 2 rfl) ?_
                  refine lv_iadd hx hb dX6_layLeft_163 ?_
                  refine lv_istore (lv' := [(5, .int (q.1 + ((l9 i) + lo))), (4, .int 1), (8, .int 0), (7, .int ((l9 i) + lo)), (0, .ref (d 0)), (1, .int st9), (2, .int lo), (3, .int 0), (6, .int (nI i))]) hx hb dX6_layLeft_164 hl (by decide) rfl (fun ls hl => ?_)
                  refine lv_goto (tgt := 221) hx hb dX6_layLeft_166 (by decide) ?_
                  refine lv_iinc (v := (nI (i + 1))) (lv' := [(6, .int (nI (i + 1))), (5, .int (q.1 + ((l9 i) + lo))), (4, .int 1), (8, .int 0), (7, .int ((l9 i) + lo)), (0, .ref (d 0)), (1, .int st9), (2, .int lo), (3, .int 0)]) hx hb dX6_layLeft_221 hl (k := 8) rfl (nI_1 i) (by decide) rfl (fun ls hl => ?_)
                  refine lv_goto (tgt := 50) hx hb dX6_layLeft_224 (by decide) ?_
                  exact ih (i + 1) (q.1 + (l9 i + lo), 1, q.2.2) (by omega) (by omega) (show _ = lisS l9 lo false i (lis l9 lo false f9 i) by rw [← hq, lisS_odd hodd]; exact Prod.ext rfl (Prod.ext (hms.elim (fun z => absurd z c_40) (fun z => z.symm)) rfl)) _ _ _ (hP.sub [0, 1, 2, 3] rfl) (hD.sub [0, 1, 2, 3] (by decide) rfl) hS (lv_sub hl [5, 6, 7, 8, 2, 1, 0] rfl)
                · exact absurd ((z_eq (a := i % 2) (b := 1) rfl rfl (by omega) (by omega)).mpr hodd) c_41
              · refine lv_iload hx hb dX6_layLeft_134 (lv_at hl 0 rfl) ?_
                refine lv_if_eq (tgt := 143) hx hb dX6_layLeft_136 (by decide) (fun c_42 => ?_) (fun c_42 => ?_)
                · refine lv_iconst (v := 0) hx hb dX6_layLeft_143 (by decide) ?_
                  refine lv_istore (lv' := [(4, .int 0), (8, .int 0), (7, .int ((l9 i) + lo)), (0, .ref (d 0)), (1, .int st9), (2, .int lo), (3, .int 0), (5, .int q.1), (6, .int (nI i))]) hx hb dX6_layLeft_144 hl (by decide) rfl (fun ls hl => ?_)
                  refine lv_iload hx hb dX6_layLeft_146 (lv_at hl 8 rfl) ?_
                  refine lv_iconst (v := 2) hx hb dX6_layLeft_148 (by decide) ?_
                  refine lv_irem hx hb dX6_layLeft_149 (by decide) ?_
                  refine z_top (pk_rem (a := i) (d := 2) (by omega) (by omega) (by omega)) ?_
                  refine lv_iconst (v := 1) hx hb dX6_layLeft_150 (by decide) ?_
                  refine lv_icmp_eq (tgt := 159) hx hb dX6_layLeft_151 (by decide) (fun c_43 => ?_) (fun c_43 => ?_)
                  · refine lv_iload hx hb dX6_layLeft_159 (lv_at hl 7 rfl) ?_
                    refine lv_iload hx hb dX6_layLeft_161 (lv_at hl 2 rfl) ?_
                    refine lv_iadd hx hb dX6_layLeft_163 ?_
                    refine lv_istore (lv' := [(5, .int (q.1 + ((l9 i) + lo))), (4, .int 0), (8, .int 0), (7, .int ((l9 i) + lo)), (0, .ref (d 0)), (1, .int st9), (2, .int lo), (3, .int 0), (6, .int (nI i))]) hx hb dX6_layLeft_164 hl (by decide) rfl (fun ls hl => ?_)
                    refine lv_goto (tgt := 221) hx hb dX6_layLeft_166 (by decide) ?_
                    refine lv_iinc (v := (nI (i + 1))) (lv' := [(6, .int (nI (i + 1))), (5, .int (q.1 + ((l9 i) + lo))), (4, .int 0), (8, .int 0), (7, .int ((l9 i) + lo)), (0, .ref (d 0)), (1, .int st9), (2, .int lo), (3, .int 0)]) hx hb dX6_layLeft_221 hl (k := 8) rfl (nI_1 i) (by decide) rfl (fun ls hl => ?_)
                    refine lv_goto (tgt := 50) hx hb dX6_layLeft_224 (by decide) ?_
                    exact ih (i + 1) (q.1 + (l9 i + lo), 0, q.2.2) (by omega) (by omega) (show _ = lisS l9 lo false i (lis l9 lo false f9 i) by rw [← hq, lisS_odd hodd]; exact Prod.ext rfl (Prod.ext (show (0 : Int32) = q.2.1 from c_40.symm) rfl)) _ _ _ (hP.sub [0, 1, 2, 3] rfl) (hD.sub [0, 1, 2, 3] (by decide) rfl) hS (lv_sub hl [5, 6, 7, 8, 2, 1, 0] rfl)
                  · exact absurd ((z_eq (a := i % 2) (b := 1) rfl rfl (by omega) (by omega)).mpr hodd) c_43
                · exact absurd rfl c_42
            · exact absurd ((z_eq (a := i % 2) (b := 0) rfl rfl (by omega) (by omega)).mp c_39) (by omega)
    exact loop _ 0 (0, 0, 0, f9) (Nat.lt_succ_self _) (by omega) rfl _ _ _ (hP.sub [0, 1, 2, 3] rfl) (hD.sub [0, 1, 2, 3] (by decide) rfl) hS (lv_sub hl [5, 6, 4, 3, 2, 1, 0] rfl)
  · refine lv_iconst (v := 1) hx hb dX6_layLeft_30 (by decide) ?_
    refine lv_goto (tgt := 35) hx hb dX6_layLeft_31 (by decide) ?_
    refine lv_istore_n (lv' := [(3, .int 1), (2, .int lo), (0, .ref (d 0)), (1, .int st9)]) hx hb dX6_layLeft_35 rfl hl (by decide) rfl (fun ls hl => ?_)
    refine lv_iconst (v := 0) hx hb dX6_layLeft_36 (by decide) ?_
    refine lv_istore (lv' := [(4, .int 0), (3, .int 1), (2, .int lo), (0, .ref (d 0)), (1, .int st9)]) hx hb dX6_layLeft_37 hl (by decide) rfl (fun ls hl => ?_)
    refine lv_iconst (v := 0) hx hb dX6_layLeft_39 (by decide) ?_
    refine lv_istore (lv' := [(5, .int 0), (4, .int 0), (3, .int 1), (2, .int lo), (0, .ref (d 0)), (1, .int st9)]) hx hb dX6_layLeft_40 hl (by decide) rfl (fun ls hl => ?_)
    refine lv_aload_n hx hb dX6_layLeft_42 rfl (lv_at hl 4 rfl) ?_
    refine lv_iconst (v := 0) hx hb dX6_layLeft_43 (by decide) ?_
    refine va_put (D := G.1) (ci := 6) (v := .int 0) (ty := .int) (C := RX6) (T := TX6) (N := 13) hx hb hts zi_X6_layLeft_X6 tyX6 tyX6_ok nmX6 hown hK.1 hP hD hS 0 rfl rfl 10 (by decide) (hts _ zw_X6_layLeft_f46) (fun _ h9 => h9) rfl (by decide +kernel) rfl rfl (Nat.le_of_ble_eq_true rfl) dX6_layLeft_44 (fun H locs hP hD hS => ?_)
    have hP : va_P G.1 vwCl [((d 0), .inr (6, [.ref (d 1), .ref (d 2), .ref (d 3), .int (nI kn), .ref (d 4), .int (nI ln), .int th, .ref (d 5), .int (nI tm), .ref (d 6), .int 0, .int (nI pl), .int wr])), ((d 1), .inl (G.2.1 0, 80, .inl s9)), ((d 5), .inl (G.2.1 0, 30, .inl l9)), ((d 6), .inl (G.2.1 0, 30, .inl f9))] H := hP
    have hD : va_D A [((d 0), .inr (6, [.ref (d 1), .ref (d 2), .ref (d 3), .int (nI kn), .ref (d 4), .int (nI ln), .int th, .ref (d 5), .int (nI tm), .ref (d 6), .int 0, .int (nI pl), .int wr])), ((d 1), .inl (G.2.1 0, 80, .inl s9)), ((d 5), .inl (G.2.1 0, 30, .inl l9)), ((d 6), .inl (G.2.1 0, 30, .inl f9))] := hD
    refine lv_iconst (v := 0) hx hb dX6_layLeft_47 (by decide) ?_
    refine lv_istore (lv' := [(6, .int 0), (5, .int 0), (4, .int 0), (3, .int 1), (2, .int lo), (0, .ref (d 0)), (1, .int st9)]) hx hb dX6_layLeft_48 hl (by decide) rfl (fun ls hl => ?_)
    have hwk : decide (st9 < 11 - s9 1) = true := decide_eq_true (Int32.not_le.mp c_1)
    have hlo : 0 ≤ lo.toInt ∧ lo.toInt ≤ 1000 := by rw [elo]; exact hlo9
    have loop : ∀ (n9 : Nat) (i : Nat) (q : zL), tm - i < n9 → (i ≤ tm) → (q = lis l9 lo true f9 i) → ∀ (H : Heap) (locs : List Loc) (ls : Array Slot), va_P G.1 vwCl [((d 0), .inr (6, [.ref (d 1), .ref (d 2), .ref (d 3), .int (nI kn), .ref (d 4), .int (nI ln), .int th, .ref (d 5), .int (nI tm), .ref (d 6), .int (nI q.2.2.1), .int (nI pl), .int wr])), ((d 1), .inl (G.2.1 0, 80, .inl s9)), ((d 5), .inl (G.2.1 0, 30, .inl l9)), ((d 6), .inl (G.2.1 0, 30, .inl q.2.2.2))] H → va_D A [((d 0), .inr (6, [.ref (d 1), .ref (d 2), .ref (d 3), .int (nI kn), .ref (d 4), .int (nI ln), .int th, .ref (d 5), .int (nI tm), .ref (d 6), .int (nI q.2.2.1), .int (nI pl), .int wr])), ((d 1), .inl (G.2.1 0, 80, .inl s9)), ((d 5), .inl (G.2.1 0, 30, .inl l9)), ((d 6), .inl (G.2.1 0, 30, .inl q.2.2.2))] → va_S A s.heap H locs → lv_has ls 9 [(0, .ref (d 0)), (1, .int st9), (2, .int lo), (3, .int 1), (4, .int q.2.1), (5, .int q.1), (6, .int (nI i))] → W p l e ({ frames := 0, cells := 0, slots := 0, locals := 0 } : Room) s m args below meth c H locs 0 0 (MQ below (zQi G (fun (v : Int32) (u : zL) => v = u.2.1 ∧ u = lis l9 (s9 0 * s9 1 / 20) (decide (st9 < 11 - s9 1)) f9 tm) (fun u => [((d 0), .inr (6, [.ref (d 1), .ref (d 2), .ref (d 3), .int (nI kn), .ref (d 4), .int (nI ln), .int th, .ref (d 5), .int (nI tm), .ref (d 6), .int (nI u.2.2.1), .int (nI pl), .int wr])), ((d 1), .inl (G.2.1 0, 80, .inl s9)), ((d 5), .inl (G.2.1 0, 30, .inl l9)), ((d 6), .inl (G.2.1 0, 30, .inl u.2.2.2))]) A) args s 0 0 A) (F0 m 50 ls []) := by
      intro n9
      induction n9 with
      | zero =>
        intro i q hm9
        exact absurd hm9 (Nat.not_lt_zero _)
      | succ n9 ih =>
        intro i q hm9 hi hq H locs ls hP hD hS hl
        refine lv_iload hx hb dX6_layLeft_50 (lv_at hl 6 rfl) ?_
        refine lv_aload_n hx hb dX6_layLeft_52 rfl (lv_at hl 0 rfl) ?_
        refine va_get (D := G.1) (ci := 6) (v := .int (nI tm)) (C := RX6) (T := TX6) (N := 13) hx hb hts zi_X6_layLeft_X6 hown hK.1 hP 0 rfl rfl 8 (by decide) (hts _ zw_X6_layLeft_f43) (fun _ h9 => h9) rfl dX6_layLeft_53 ?_
        refine lv_icmp_ge (tgt := 227) hx hb dX6_layLeft_56 (by decide) (fun c_44 => ?_) (fun c_44 => ?_)
        · obtain rfl : i = tm := by have := (z_le rfl rfl (by omega) (by omega)).mp c_44; omega
          refine lv_iload hx hb dX6_layLeft_227 (lv_at hl 4 rfl) ?_
          have hP9 := hP.sub (ws' := [((d 0), .inr (6, [.ref (d 1), .ref (d 2), .ref (d 3), .int (nI kn), .ref (d 4), .int (nI ln), .int th, .ref (d 5), .int (nI i), .ref (d 6), .int (nI q.2.2.1), .int (nI pl), .int wr])), ((d 1), .inl (G.2.1 0, 80, .inl s9)), ((d 5), .inl (G.2.1 0, 30, .inl l9)), ((d 6), .inl (G.2.1 0, 30, .inl q.2.2.2))]) [0, 1, 2, 3] rfl
          have hD9 := hD.sub (ws' := [((d 0), .inr (6, [.ref (d 1), .ref (d 2), .ref (d 3), .int (nI kn), .ref (d 4), .int (nI ln), .int th, .ref (d 5), .int (nI i), .ref (d 6), .int (nI q.2.2.1), .int (nI pl), .int wr])), ((d 1), .inl (G.2.1 0, 80, .inl s9)), ((d 5), .inl (G.2.1 0, 30, .inl l9)), ((d 6), .inl (G.2.1 0, 30, .inl q.2.2.2))]) [0, 1, 2, 3] (by decide) rfl
          exact z_iret hx hb hr (by have hms := lis_ms l9 lo true f9 i; rw [← hq] at hms; rcases hms with z | z <;> (rw [z]; rfl)) hlocks q hP9 hD9 hS (Nat.le_of_ble_eq_true rfl) (Nat.le_of_ble_eq_true rfl) dX6_layLeft_229 ⟨rfl, by rw [hwk, ← elo]; exact hq⟩
        · have hlt : i < tm := by have := mt (z_le rfl rfl (by omega) (by omega)).mpr c_44; omega
          have hkp := lis_kept l9 lo true f9 i
          rw [← hq] at hkp
          have hms := lis_ms l9 lo true f9 i
          rw [← hq] at hms
          refine lv_iload hx hb dX6_layLeft_59 (lv_at hl 6 rfl) ?_
          refine lv_iconst (v := 2) hx hb dX6_layLeft_61 (by decide) ?_
          refine lv_irem hx hb dX6_layLeft_62 (by decide) ?_
          refine z_top (pk_rem (a := i) (d := 2) (by omega) (by omega) (by omega)) ?_
          refine lv_iconst (v := 1) hx hb dX6_layLeft_63 (by decide) ?_
          refine lv_icmp_ne (tgt := 79) hx hb dX6_layLeft_64 (by decide) (fun c_45 => ?_) (fun c_45 => ?_)
          · have hev : i % 2 = 0 := by have := mt (z_eq (a := i % 2) (b := 1) rfl rfl (by omega) (by omega)).mpr c_45; omega
            refine lv_aload_n hx hb dX6_layLeft_79 rfl (lv_at hl 0 rfl) ?_
            refine va_get (D := G.1) (ci := 6) (v := .ref (d 5)) (C := RX6) (T := TX6) (N := 13) hx hb hts zi_X6_layLeft_X6 hown hK.1 hP 0 rfl rfl 7 (by decide) (hts _ zw_X6_layLeft_f22) (fun _ h9 => h9) rfl dX6_layLeft_80 ?_
            refine lv_iload hx hb dX6_layLeft_83 (lv_at hl 6 rfl) ?_
            refine z_iald (k := i) hx hb hK.1 hP 2 0 rfl rfl rfl (by omega) (by omega) dX6_layLeft_85 ?_
            refine lv_iload_n hx hb dX6_layLeft_86 rfl (lv_at hl 2 rfl) ?_
            refine lv_icmp_le (tgt := 102) hx hb dX6_layLeft_87 (by decide) (fun c_46 => ?_) (fun c_46 => ?_)
            · refine lv_iconst (v := 0) hx hb dX6_layLeft_102 (by decide) ?_
              refine lv_topi (fun bu ebu0 => ?_)
              have ebu : bu = (if (l9 i - lo) < 0 then (0 : Int32) else (l9 i - lo)) := by rw [← zsub (hli9 i hlt hev).1 (hli9 i hlt hev).2 hlo.1 hlo.2, if_neg (Int32.not_lt.mpr c_46), ebu0]
              refine lv_istore (lv' := [(7, .int bu), (0, .ref (d 0)), (1, .int st9), (2, .int lo), (3, .int 1), (4, .int q.2.1), (5, .int q.1), (6, .int (nI i))]) hx hb dX6_layLeft_103 hl (by decide) rfl (fun ls hl => ?_)
              refine lv_iload hx hb dX6_layLeft_105 (lv_at hl 7 rfl) ?_
              refine lv_iconst (v := 2) hx hb dX6_layLeft_107 (by decide) ?_
              refine lv_irem hx hb dX6_layLeft_108 (by decide) ?_
              refine z_top (pk_rem (a := i) (d := 2) (by omega) (by omega) (by omega)) ?_
              refine lv_if_ne (tgt := 126) hx hb dX6_layLeft_109 (by decide) (fun c_47 => ?_) (fun c_47 => ?_)
              · exact absurd ((z_eq (a := i % 2) (b := 0) rfl rfl (by omega) (by omega)).mpr hev) c_47
              · refine lv_iload_n hx hb dX6_layLeft_112 rfl (lv_at hl 4 rfl) ?_
                refine lv_if_ne (tgt := 122) hx hb dX6_layLeft_113 (by decide) (fun c_48 => ?_) (fun c_48 => ?_)
                · refine lv_iconst (v := 1) hx hb dX6_layLeft_122 (by decide) ?_
                  refine lv_goto (tgt := 127) hx hb dX6_layLeft_123 (by decide) ?_
                  refine lv_istore (lv' := [(8, .int 1), (7, .int bu), (0, .ref (d 0)), (1, .int st9), (2, .int lo), (3, .int 1), (4, .int q.2.1), (5, .int q.1), (6, .int (nI i))]) hx hb dX6_layLeft_127 hl (by decide) rfl (fun ls hl => ?_)
                  refine lv_iload hx hb dX6_layLeft_129 (lv_at hl 6 rfl) ?_
                  refine lv_if_ne (tgt := 139) hx hb dX6_layLeft_131 (by decide) (fun c_49 => ?_) (fun c_49 => ?_)
                  · refine lv_iconst (v := 1) hx hb dX6_layLeft_139 (by decide) ?_
                    refine lv_goto (tgt := 144) hx hb dX6_layLeft_140 (by decide) ?_
                    refine lv_istore (lv' := [(4, .int 1), (8, .int 1), (7, .int bu), (0, .ref (d 0)), (1, .int st9), (2, .int lo), (3, .int 1), (5, .int q.1), (6, .int (nI i))]) hx hb dX6_layLeft_144 hl (by decide) rfl (fun ls hl => ?_)
                    refine lv_iload hx hb dX6_layLeft_146 (lv_at hl 8 rfl) ?_
                    refine lv_iconst (v := 2) hx hb dX6_layLeft_148 (by decide) ?_
                    refine lv_irem hx hb dX6_layLeft_149 (by decide) ?_
                    refine z_top (pk_rem (a := i) (d := 2) (by omega) (by omega) (by omega)) ?_
                    refine lv_iconst (v := 1) hx hb dX6_layLeft_150 (by decide) ?_
                    refine lv_icmp_eq (tgt := 159) hx hb dX6_layLeft_151 (by decide) (fun c_50 => ?_) (fun c_50 => ?_)
                    · exact absurd ((z_eq (a := i % 2) (b := 1) rfl rfl (by omega) (by omega)).mp c_50) (by omega)
                    · refine lv_iload hx hb dX6_layLeft_154 (lv_at hl 1 rfl) ?_
                      refine lv_if_eq (tgt := 169) hx hb dX6_layLeft_156 (by decide) (fun c_51 => ?_) (fun c_51 => ?_)
                      · exact absurd c_51 (by decide)
                      · refine lv_iload hx hb dX6_layLeft_159 (lv_at hl 7 rfl) ?_
                        refine lv_iload hx hb dX6_layLeft_161 (lv_at hl 2 rfl) ?_
                        refine lv_iadd hx hb dX6_layLeft_163 ?_
                        refine lv_istore (lv' := [(5, .int (q.1 + bu)), (4, .int 1), (8, .int 1), (7, .int bu), (0, .ref (d 0)), (1, .int st9), (2, .int lo), (3, .int 1), (6, .int (nI i))]) hx hb dX6_layLeft_164 hl (by decide) rfl (fun ls hl => ?_)
                        refine lv_goto (tgt := 221) hx hb dX6_layLeft_166 (by decide) ?_
                        refine lv_iinc (v := (nI (i + 1))) (lv' := [(6, .int (nI (i + 1))), (5, .int (q.1 + bu)), (4, .int 1), (8, .int 1), (7, .int bu), (0, .ref (d 0)), (1, .int st9), (2, .int lo), (3, .int 1)]) hx hb dX6_layLeft_221 hl (k := 8) rfl (nI_1 i) (by decide) rfl (fun ls hl => ?_)
                        refine lv_goto (tgt := 50) hx hb dX6_layLeft_224 (by decide) ?_
                        exact ih (i + 1) (q.1 + bu, 1, q.2.2) (by omega) (by omega) (show _ = lisS l9 lo true i (lis l9 lo true f9 i) by rw [← hq, lisS_miss hev (Or.inl rfl), ← ebu]) _ _ _ (hP.sub [0, 1, 2, 3] rfl) (hD.sub [0, 1, 2, 3] (by decide) rfl) hS (lv_sub hl [5, 6, 7, 8, 2, 1, 0] rfl)
                  · refine lv_iload hx hb dX6_layLeft_134 (lv_at hl 0 rfl) ?_
                    refine lv_if_eq (tgt := 143) hx hb dX6_layLeft_136 (by decide) (fun c_52 => ?_) (fun c_52 => ?_)
                    · exact absurd c_52 (by decide)
                    · refine lv_iconst (v := 1) hx hb dX6_layLeft_139 (by decide) ?_
                      refine lv_goto (tgt := 144) hx hb dX6_layLeft_140 (by decide) ?_
                      refine lv_istore (lv' := [(4, .int 1), (8, .int 1), (7, .int bu), (0, .ref (d 0)), (1, .int st9), (2, .int lo), (3, .int 1), (5, .int q.1), (6, .int (nI i))]) hx hb dX6_layLeft_144 hl (by decide) rfl (fun ls hl => ?_)
                      refine lv_iload hx hb dX6_layLeft_146 (lv_at hl 8 rfl) ?_
                      refine lv_iconst (v := 2) hx hb dX6_layLeft_148 (by decide) ?_
                      refine lv_irem hx hb dX6_layLeft_149 (by decide) ?_
                      refine z_top (pk_rem (a := i) (d := 2) (by omega) (by omega) (by omega)) ?_
                      refine lv_iconst (v := 1) hx hb dX6_layLeft_150 (by decide) ?_
                      refine lv_icmp_eq (tgt := 159) hx hb dX6_layLeft_151 (by decide) (fun c_53 => ?_) (fun c_53 => ?_)
                      · exact absurd ((z_eq (a := i % 2) (b := 1) rfl rfl (by omega) (by omega)).mp c_53) (by omega)
                      · refine lv_iload hx hb dX6_layLeft_154 (lv_at hl 1 rfl) ?_
                        refine lv_if_eq (tgt := 169) hx hb dX6_layLeft_156 (by decide) (fun c_54 => ?_) (fun c_54 => ?_)
                        · exact absurd c_54 (by decide)
                        · refine lv_iload hx hb dX6_layLeft_159 (lv_at hl 7 rfl) ?_
                          refine lv_iload hx hb dX6_layLeft_161 (lv_at hl 2 rfl) ?_
                          refine lv_iadd hx hb dX6_layLeft_163 ?_
                          refine lv_istore (lv' := [(5, .int (q.1 + bu)), (4, .int 1), (8, .int 1), (7, .int bu), (0, .ref (d 0)), (1, .int st9), (2, .int lo), (3, .int 1), (6, .int (nI i))]) hx hb dX6_layLeft_164 hl (by decide) rfl (fun ls hl => ?_)
                          refine lv_goto (tgt := 221) hx hb dX6_layLeft_166 (by decide) ?_
                          refine lv_iinc (v := (nI (i + 1))) (lv' := [(6, .int (nI (i + 1))), (5, .int (q.1 + bu)), (4, .int 1), (8, .int 1), (7, .int bu), (0, .ref (d 0)), (1, .int st9), (2, .int lo), (3, .int 1)]) hx hb dX6_layLeft_221 hl (k := 8) rfl (nI_1 i) (by decide) rfl (fun ls hl => ?_)
                          refine lv_goto (tgt := 50) hx hb dX6_layLeft_224 (by decide) ?_
                          exact ih (i + 1) (q.1 + bu, 1, q.2.2) (by omega) (by omega) (show _ = lisS l9 lo true i (lis l9 lo true f9 i) by rw [← hq, lisS_miss hev (Or.inl rfl), ← ebu]) _ _ _ (hP.sub [0, 1, 2, 3] rfl) (hD.sub [0, 1, 2, 3] (by decide) rfl) hS (lv_sub hl [5, 6, 7, 8, 2, 1, 0] rfl)
                · exact absurd c_48 (by decide)
            · refine lv_aload_n hx hb dX6_layLeft_90 rfl (lv_at hl 0 rfl) ?_
              refine va_get (D := G.1) (ci := 6) (v := .ref (d 5)) (C := RX6) (T := TX6) (N := 13) hx hb hts zi_X6_layLeft_X6 hown hK.1 hP 0 rfl rfl 7 (by decide) (hts _ zw_X6_layLeft_f22) (fun _ h9 => h9) rfl dX6_layLeft_91 ?_
              refine lv_iload hx hb dX6_layLeft_94 (lv_at hl 6 rfl) ?_
              refine z_iald (k := i) hx hb hK.1 hP 2 0 rfl rfl rfl (by omega) (by omega) dX6_layLeft_96 ?_
              refine lv_iload_n hx hb dX6_layLeft_97 rfl (lv_at hl 2 rfl) ?_
              refine lv_isub hx hb dX6_layLeft_98 ?_
              refine lv_goto (tgt := 103) hx hb dX6_layLeft_99 (by decide) ?_
              refine lv_topi (fun bu ebu0 => ?_)
              have ebu : bu = (if (l9 i - lo) < 0 then (0 : Int32) else (l9 i - lo)) := by rw [← zsub (hli9 i hlt hev).1 (hli9 i hlt hev).2 hlo.1 hlo.2, if_pos (Int32.not_le.mp c_46), ebu0]
              refine lv_istore (lv' := [(7, .int bu), (0, .ref (d 0)), (1, .int st9), (2, .int lo), (3, .int 1), (4, .int q.2.1), (5, .int q.1), (6, .int (nI i))]) hx hb dX6_layLeft_103 hl (by decide) rfl (fun ls hl => ?_)
              refine lv_iload hx hb dX6_layLeft_105 (lv_at hl 7 rfl) ?_
              refine lv_iconst (v := 2) hx hb dX6_layLeft_107 (by decide) ?_
              refine lv_irem hx hb dX6_layLeft_108 (by decide) ?_
              refine z_top (pk_rem (a := i) (d := 2) (by omega) (by omega) (by omega)) ?_
              refine lv_if_ne (tgt := 126) hx hb dX6_layLeft_109 (by decide) (fun c_55 => ?_) (fun c_55 => ?_)
              · exact absurd ((z_eq (a := i % 2) (b := 0) rfl rfl (by omega) (by omega)).mpr hev) c_55
              · refine lv_iload_n hx hb dX6_layLeft_112 rfl (lv_at hl 4 rfl) ?_
                refine lv_if_ne (tgt := 122) hx hb dX6_layLeft_113 (by decide) (fun c_56 => ?_) (fun c_56 => ?_)
                · refine lv_iconst (v := 1) hx hb dX6_layLeft_122 (by decide) ?_
                  refine lv_goto (tgt := 127) hx hb dX6_layLeft_123 (by decide) ?_
                  refine lv_istore (lv' := [(8, .int 1), (7, .int bu), (0, .ref (d 0)), (1, .int st9), (2, .int lo), (3, .int 1), (4, .int q.2.1), (5, .int q.1), (6, .int (nI i))]) hx hb dX6_layLeft_127 hl (by decide) rfl (fun ls hl => ?_)
                  refine lv_iload hx hb dX6_layLeft_129 (lv_at hl 6 rfl) ?_
                  refine lv_if_ne (tgt := 139) hx hb dX6_layLeft_131 (by decide) (fun c_57 => ?_) (fun c_57 => ?_)
                  · refine lv_iconst (v := 1) hx hb dX6_layLeft_139 (by decide) ?_
                    refine lv_goto (tgt := 144) hx hb dX6_layLeft_140 (by decide) ?_
                    refine lv_istore (lv' := [(4, .int 1), (8, .int 1), (7, .int bu), (0, .ref (d 0)), (1, .int st9), (2, .int lo), (3, .int 1), (5, .int q.1), (6, .int (nI i))]) hx hb dX6_layLeft_144 hl (by decide) rfl (fun ls hl => ?_)
                    refine lv_iload hx hb dX6_layLeft_146 (lv_at hl 8 rfl) ?_
                    refine lv_iconst (v := 2) hx hb dX6_layLeft_148 (by decide) ?_
                    refine lv_irem hx hb dX6_layLeft_149 (by decide) ?_
                    refine z_top (pk_rem (a := i) (d := 2) (by omega) (by omega) (by omega)) ?_
                    refine lv_iconst (v := 1) hx hb dX6_layLeft_150 (by decide) ?_
                    refine lv_icmp_eq (tgt := 159) hx hb dX6_layLeft_151 (by decide) (fun c_58 => ?_) (fun c_58 => ?_)
                    · exact absurd ((z_eq (a := i % 2) (b := 1) rfl rfl (by omega) (by omega)).mp c_58) (by omega)
                    · refine lv_iload hx hb dX6_layLeft_154 (lv_at hl 1 rfl) ?_
                      refine lv_if_eq (tgt := 169) hx hb dX6_layLeft_156 (by decide) (fun c_59 => ?_) (fun c_59 => ?_)
                      · exact absurd c_59 (by decide)
                      · refine lv_iload hx hb dX6_layLeft_159 (lv_at hl 7 rfl) ?_
                        refine lv_iload hx hb dX6_layLeft_161 (lv_at hl 2 rfl) ?_
                        refine lv_iadd hx hb dX6_layLeft_163 ?_
                        refine lv_istore (lv' := [(5, .int (q.1 + bu)), (4, .int 1), (8, .int 1), (7, .int bu), (0, .ref (d 0)), (1, .int st9), (2, .int lo), (3, .int 1), (6, .int (nI i))]) hx hb dX6_layLeft_164 hl (by decide) rfl (fun ls hl => ?_)
                        refine lv_goto (tgt := 221) hx hb dX6_layLeft_166 (by decide) ?_
                        refine lv_iinc (v := (nI (i + 1))) (lv' := [(6, .int (nI (i + 1))), (5, .int (q.1 + bu)), (4, .int 1), (8, .int 1), (7, .int bu), (0, .ref (d 0)), (1, .int st9), (2, .int lo), (3, .int 1)]) hx hb dX6_layLeft_221 hl (k := 8) rfl (nI_1 i) (by decide) rfl (fun ls hl => ?_)
                        refine lv_goto (tgt := 50) hx hb dX6_layLeft_224 (by decide) ?_
                        exact ih (i + 1) (q.1 + bu, 1, q.2.2) (by omega) (by omega) (show _ = lisS l9 lo true i (lis l9 lo true f9 i) by rw [← hq, lisS_miss hev (Or.inl rfl), ← ebu]) _ _ _ (hP.sub [0, 1, 2, 3] rfl) (hD.sub [0, 1, 2, 3] (by decide) rfl) hS (lv_sub hl [5, 6, 7, 8, 2, 1, 0] rfl)
                  · refine lv_iload hx hb dX6_layLeft_134 (lv_at hl 0 rfl) ?_
                    refine lv_if_eq (tgt := 143) hx hb dX6_layLeft_136 (by decide) (fun c_60 => ?_) (fun c_60 => ?_)
                    · exact absurd c_60 (by decide)
                    · refine lv_iconst (v := 1) hx hb dX6_layLeft_139 (by decide) ?_
                      refine lv_goto (tgt := 144) hx hb dX6_layLeft_140 (by decide) ?_
                      refine lv_istore (lv' := [(4, .int 1), (8, .int 1), (7, .int bu), (0, .ref (d 0)), (1, .int st9), (2, .int lo), (3, .int 1), (5, .int q.1), (6, .int (nI i))]) hx hb dX6_layLeft_144 hl (by decide) rfl (fun ls hl => ?_)
                      refine lv_iload hx hb dX6_layLeft_146 (lv_at hl 8 rfl) ?_
                      refine lv_iconst (v := 2) hx hb dX6_layLeft_148 (by decide) ?_
                      refine lv_irem hx hb dX6_layLeft_149 (by decide) ?_
                      refine z_top (pk_rem (a := i) (d := 2) (by omega) (by omega) (by omega)) ?_
                      refine lv_iconst (v := 1) hx hb dX6_layLeft_150 (by decide) ?_
                      refine lv_icmp_eq (tgt := 159) hx hb dX6_layLeft_151 (by decide) (fun c_61 => ?_) (fun c_61 => ?_)
                      · exact absurd ((z_eq (a := i % 2) (b := 1) rfl rfl (by omega) (by omega)).mp c_61) (by omega)
                      · refine lv_iload hx hb dX6_layLeft_154 (lv_at hl 1 rfl) ?_
                        refine lv_if_eq (tgt := 169) hx hb dX6_layLeft_156 (by decide) (fun c_62 => ?_) (fun c_62 => ?_)
                        · exact absurd c_62 (by decide)
                        · refine lv_iload hx hb dX6_layLeft_159 (lv_at hl 7 rfl) ?_
                          refine lv_iload hx hb dX6_layLeft_161 (lv_at hl 2 rfl) ?_
                          refine lv_iadd hx hb dX6_layLeft_163 ?_
                          refine lv_istore (lv' := [(5, .int (q.1 + bu)), (4, .int 1), (8, .int 1), (7, .int bu), (0, .ref (d 0)), (1, .int st9), (2, .int lo), (3, .int 1), (6, .int (nI i))]) hx hb dX6_layLeft_164 hl (by decide) rfl (fun ls hl => ?_)
                          refine lv_goto (tgt := 221) hx hb dX6_layLeft_166 (by decide) ?_
                          refine lv_iinc (v := (nI (i + 1))) (lv' := [(6, .int (nI (i + 1))), (5, .int (q.1 + bu)), (4, .int 1), (8, .int 1), (7, .int bu), (0, .ref (d 0)), (1, .int st9), (2, .int lo), (3, .int 1)]) hx hb dX6_layLeft_221 hl (k := 8) rfl (nI_1 i) (by decide) rfl (fun ls hl => ?_)
                          refine lv_goto (tgt := 50) hx hb dX6_layLeft_224 (by decide) ?_
                          exact ih (i + 1) (q.1 + bu, 1, q.2.2) (by omega) (by omega) (show _ = lisS l9 lo true i (lis l9 lo true f9 i) by rw [← hq, lisS_miss hev (Or.inl rfl), ← ebu]) _ _ _ (hP.sub [0, 1, 2, 3] rfl) (hD.sub [0, 1, 2, 3] (by decide) rfl) hS (lv_sub hl [5, 6, 7, 8, 2, 1, 0] rfl)
                · exact absurd c_56 (by decide)
          · have hodd : i % 2 = 1 := (z_eq (a := i % 2) (b := 1) rfl rfl (by omega) (by omega)).mp c_45
            refine lv_aload_n hx hb dX6_layLeft_67 rfl (lv_at hl 0 rfl) ?_
            refine va_get (D := G.1) (ci := 6) (v := .ref (d 5)) (C := RX6) (T := TX6) (N := 13) hx hb hts zi_X6_layLeft_X6 hown hK.1 hP 0 rfl rfl 7 (by decide) (hts _ zw_X6_layLeft_f22) (fun _ h9 => h9) rfl dX6_layLeft_68 ?_
            refine lv_iload hx hb dX6_layLeft_71 (lv_at hl 6 rfl) ?_
            refine z_iald (k := i) hx hb hK.1 hP 2 0 rfl rfl rfl (by omega) (by omega) dX6_layLeft_73 ?_
            refine lv_iload_n hx hb dX6_layLeft_74 rfl (lv_at hl 2 rfl) ?_
            refine lv_iadd hx hb dX6_layLeft_75 ?_
            refine lv_goto (tgt := 103) hx hb dX6_layLeft_76 (by decide) ?_
            refine lv_istore (lv' := [(7, .int ((l9 i) + lo)), (0, .ref (d 0)), (1, .int st9), (2, .int lo), (3, .int 1), (4, .int q.2.1), (5, .int q.1), (6, .int (nI i))]) hx hb dX6_layLeft_103 hl (by decide) rfl (fun ls hl => ?_)
            refine lv_iload hx hb dX6_layLeft_105 (lv_at hl 7 rfl) ?_
            refine lv_iconst (v := 2) hx hb dX6_layLeft_107 (by decide) ?_
            refine lv_irem hx hb dX6_layLeft_108 (by decide) ?_
            refine z_top (pk_rem (a := i) (d := 2) (by omega) (by omega) (by omega)) ?_
            refine lv_if_ne (tgt := 126) hx hb dX6_layLeft_109 (by decide) (fun c_63 => ?_) (fun c_63 => ?_)
            · refine lv_iconst (v := 0) hx hb dX6_layLeft_126 (by decide) ?_
              refine lv_istore (lv' := [(8, .int 0), (7, .int ((l9 i) + lo)), (0, .ref (d 0)), (1, .int st9), (2, .int lo), (3, .int 1), (4, .int q.2.1), (5, .int q.1), (6, .int (nI i))]) hx hb dX6_layLeft_127 hl (by decide) rfl (fun ls hl => ?_)
              refine lv_iload hx hb dX6_layLeft_129 (lv_at hl 6 rfl) ?_
              refine lv_if_ne (tgt := 139) hx hb dX6_layLeft_131 (by decide) (fun c_64 => ?_) (fun c_64 => ?_)
              · refine lv_iconst (v := 1) hx hb dX6_layLeft_139 (by decide) ?_
                refine lv_goto (tgt := 144) hx hb dX6_layLeft_140 (by decide) ?_
                refine lv_istore (lv' := [(4, .int 1), (8, .int 0), (7, .int ((l9 i) + lo)), (0, .ref (d 0)), (1, .int st9), (2, .int lo), (3, .int 1), (5, .int q.1), (6, .int (nI i))]) hx hb dX6_layLeft_144 hl (by decide) rfl (fun ls hl => ?_)
                refine lv_iload hx hb dX6_layLeft_146 (lv_at hl 8 rfl) ?_
                refine lv_iconst (v := 2) hx hb dX6_layLeft_148 (by decide) ?_
                refine lv_irem hx hb dX6_layLeft_149 (by decide) ?_
                refine z_top (pk_rem (a := i) (d := 2) (by omega) (by omega) (by omega)) ?_
                refine lv_iconst (v := 1) hx hb dX6_layLeft_150 (by decide) ?_
                refine lv_icmp_eq (tgt := 159) hx hb dX6_layLeft_151 (by decide) (fun c_65 => ?_) (fun c_65 => ?_)
                · refine lv_iload hx hb dX6_layLeft_159 (lv_at hl 7 rfl) ?_
                  refine lv_iload hx hb dX6_layLeft_161 (lv_at hl 2 rfl) ?_
                  refine lv_iadd hx hb dX6_layLeft_163 ?_
                  refine lv_istore (lv' := [(5, .int (q.1 + ((l9 i) + lo))), (4, .int 1), (8, .int 0), (7, .int ((l9 i) + lo)), (0, .ref (d 0)), (1, .int st9), (2, .int lo), (3, .int 1), (6, .int (nI i))]) hx hb dX6_layLeft_164 hl (by decide) rfl (fun ls hl => ?_)
                  refine lv_goto (tgt := 221) hx hb dX6_layLeft_166 (by decide) ?_
                  refine lv_iinc (v := (nI (i + 1))) (lv' := [(6, .int (nI (i + 1))), (5, .int (q.1 + ((l9 i) + lo))), (4, .int 1), (8, .int 0), (7, .int ((l9 i) + lo)), (0, .ref (d 0)), (1, .int st9), (2, .int lo), (3, .int 1)]) hx hb dX6_layLeft_221 hl (k := 8) rfl (nI_1 i) (by decide) rfl (fun ls hl => ?_)
                  refine lv_goto (tgt := 50) hx hb dX6_layLeft_224 (by decide) ?_
                  exact ih (i + 1) (q.1 + (l9 i + lo), 1, q.2.2) (by omega) (by omega) (show _ = lisS l9 lo true i (lis l9 lo true f9 i) by rw [← hq, lisS_odd hodd]; exact Prod.ext rfl (Prod.ext (hms.elim (fun z => absurd z c_64) (fun z => z.symm)) rfl)) _ _ _ (hP.sub [0, 1, 2, 3] rfl) (hD.sub [0, 1, 2, 3] (by decide) rfl) hS (lv_sub hl [5, 6, 7, 8, 2, 1, 0] rfl)
                · exact absurd ((z_eq (a := i % 2) (b := 1) rfl rfl (by omega) (by omega)).mpr hodd) c_65
              · refine lv_iload hx hb dX6_layLeft_134 (lv_at hl 0 rfl) ?_
                refine lv_if_eq (tgt := 143) hx hb dX6_layLeft_136 (by decide) (fun c_66 => ?_) (fun c_66 => ?_)
                · refine lv_iconst (v := 0) hx hb dX6_layLeft_143 (by decide) ?_
                  refine lv_istore (lv' := [(4, .int 0), (8, .int 0), (7, .int ((l9 i) + lo)), (0, .ref (d 0)), (1, .int st9), (2, .int lo), (3, .int 1), (5, .int q.1), (6, .int (nI i))]) hx hb dX6_layLeft_144 hl (by decide) rfl (fun ls hl => ?_)
                  refine lv_iload hx hb dX6_layLeft_146 (lv_at hl 8 rfl) ?_
                  refine lv_iconst (v := 2) hx hb dX6_layLeft_148 (by decide) ?_
                  refine lv_irem hx hb dX6_layLeft_149 (by decide) ?_
                  refine z_top (pk_rem (a := i) (d := 2) (by omega) (by omega) (by omega)) ?_
                  refine lv_iconst (v := 1) hx hb dX6_layLeft_150 (by decide) ?_
                  refine lv_icmp_eq (tgt := 159) hx hb dX6_layLeft_151 (by decide) (fun c_67 => ?_) (fun c_67 => ?_)
                  · refine lv_iload hx hb dX6_layLeft_159 (lv_at hl 7 rfl) ?_
                    refine lv_iload hx hb dX6_layLeft_161 (lv_at hl 2 rfl) ?_
                    refine lv_iadd hx hb dX6_layLeft_163 ?_
                    refine lv_istore (lv' := [(5, .int (q.1 + ((l9 i) + lo))), (4, .int 0), (8, .int 0), (7, .int ((l9 i) + lo)), (0, .ref (d 0)), (1, .int st9), (2, .int lo), (3, .int 1), (6, .int (nI i))]) hx hb dX6_layLeft_164 hl (by decide) rfl (fun ls hl => ?_)
                    refine lv_goto (tgt := 221) hx hb dX6_layLeft_166 (by decide) ?_
                    refine lv_iinc (v := (nI (i + 1))) (lv' := [(6, .int (nI (i + 1))), (5, .int (q.1 + ((l9 i) + lo))), (4, .int 0), (8, .int 0), (7, .int ((l9 i) + lo)), (0, .ref (d 0)), (1, .int st9), (2, .int lo), (3, .int 1)]) hx hb dX6_layLeft_221 hl (k := 8) rfl (nI_1 i) (by decide) rfl (fun ls hl => ?_)
                    refine lv_goto (tgt := 50) hx hb dX6_layLeft_224 (by decide) ?_
                    exact ih (i + 1) (q.1 + (l9 i + lo), 0, q.2.2) (by omega) (by omega) (show _ = lisS l9 lo true i (lis l9 lo true f9 i) by rw [← hq, lisS_odd hodd]; exact Prod.ext rfl (Prod.ext (show (0 : Int32) = q.2.1 from c_64.symm) rfl)) _ _ _ (hP.sub [0, 1, 2, 3] rfl) (hD.sub [0, 1, 2, 3] (by decide) rfl) hS (lv_sub hl [5, 6, 7, 8, 2, 1, 0] rfl)
                  · exact absurd ((z_eq (a := i % 2) (b := 1) rfl rfl (by omega) (by omega)).mpr hodd) c_67
                · exact absurd rfl c_66
            · exact absurd ((z_eq (a := i % 2) (b := 0) rfl rfl (by omega) (by omega)).mp c_63) (by omega)
    exact loop _ 0 (0, 0, 0, f9) (Nat.lt_succ_self _) (by omega) rfl _ _ _ (hP.sub [0, 1, 2, 3] rfl) (hD.sub [0, 1, 2, 3] (by decide) rfl) hS (lv_sub hl [5, 6, 4, 3, 2, 1, 0] rfl)
end
