section PL5
def lsV (N : zN) : Int32 := if 60 ≤ N 0 * N 1 then -1 else nI (11 - N 1)
/-- the gains foretold hold up to frame k -/
def rtG (r : Int32) (k : Nat) : Prop := r = -1 ∨ ∃ k0, r = nI k0 ∧ k0 ≤ 20 ∧ k ≤ k0
theorem rtG_not {k0 k : Nat} (h : k0 < k) (h2 : k0 ≤ 20) : ¬ rtG (nI k0) k := by
  rintro (z | ⟨q, z, z2, z3⟩)
  · exact nI_nm1 (by omega) z
  · have := (nI_eq (by omega) (by omega)).mp z
    omega
set_option maxHeartbeats 4000000 in
set_option maxRecDepth 100000 in
theorem pL_areForecastsSo (l : Launch) (G : zG) (sz : Nat) (ad : zAd) {D : zDc} {N : zN} {n : Nat} (h : J n D N) (hn : n < 8800) : zMi l yL_areForecastsSo wsL_areForecastsSo ({ frames := 6, cells := 0, slots := 0, locals := 147 } : Room) [.ref ad.2.2.1, .int (nI (N 2))] G (wCl G ad D) (fun (v : Int32) (D' : zDc) => v = 1 ∧ J n D' N) (fun D' => wCl G ad D') sz 0 0 := by
  refine zMi_of (cc := cL_areForecastsSo) (maxL := 9) (ret := (some .boolean)) (by decide) rfl (Nat.le_of_ble_eq_true rfl) ?_
  intro p e s m args below meth c A ls hx hb hr hml hts hown hlocks hnm hK hP hD hAe hS hA hl hsz
  have hown : s.vm.findClass RL = some m.cls := hown
  have hl : lv_has ls 9 [(0, .ref ad.2.2.1), (1, .int (nI (N 2)))] := hl
  obtain ⟨⟨b0, b1, b2, b3, b4, b5, b6, b7, b8, b9, b10⟩, ba, bd, bl⟩ := id h.2.1
  have M67 : ∀ (D1 : zDc) (r : Int32) (fv : Int32) (H : Heap) (locs : List Loc) (ls : Array Slot), (J n D1 N) → (rtP N r) → (fv = tkV N) → va_P G.1 vwCl (wCl G ad D1) H → va_D A (wCl G ad D1) → va_S A s.heap H locs → lv_has ls 9 [(0, .ref ad.2.2.1), (1, .int (nI (N 2))), (2, .int (lsV N)), (3, .int r), (4, .int fv), (5, .int 1), (6, .int 1)] → W p l e ({ frames := 6, cells := 0, slots := 0, locals := 147 } : Room) s m args below meth c H locs 0 0 (MQ below (zQi G (fun (v : Int32) (D' : zDc) => v = 1 ∧ J n D' N) (fun D' => wCl G ad D') A) args s 0 0 A) (F0 m 67 ls []) := by
    intro D1 r fv H locs ls h1 hrt hf hP hD hS hl
    have L67 : ∀ (n9 : Nat) (k : Nat) (D1 : zDc), 11 < k + n9 → (J n D1 N) → (1 ≤ k) → (k ≤ 11) → ∀ (H : Heap) (locs : List Loc) (ls : Array Slot), va_P G.1 vwCl (wCl G ad D1) H → va_D A (wCl G ad D1) → va_S A s.heap H locs → lv_has ls 9 [(0, .ref ad.2.2.1), (1, .int (nI (N 2))), (2, .int (lsV N)), (3, .int r), (4, .int fv), (5, .int 1), (6, .int (nI k))] → W p l e ({ frames := 6, cells := 0, slots := 0, locals := 147 } : Room) s m args below meth c H locs 0 0 (MQ below (zQi G (fun (v : Int32) (D' : zDc) => v = 1 ∧ J n D' N) (fun D' => wCl G ad D') A) args s 0 0 A) (F0 m 67 ls []) := by
      intro n9
      induction n9 with
      | zero =>
        intro k D1 z h1 hk1 hk2
        exact absurd z (by omega)
      | succ n9 ih =>
        intro k D1 hz h1 hk1 hk2 H locs ls hP hD hS hl
        refine lv_iload hx hb dL_areForecastsSo_67 (lv_at hl 6 rfl) ?_
        refine lv_bipush (v := 10) hx hb dL_areForecastsSo_69 (by decide) ?_
        refine lv_icmp_gt (tgt := 131) hx hb dL_areForecastsSo_71 (by decide) (fun c_1 => ?_) (fun c_1 => ?_)
        · have M183 : ∀ (D1 : zDc) (H : Heap) (locs : List Loc) (ls : Array Slot), (J n D1 N) → va_P G.1 vwCl (wCl G ad D1) H → va_D A (wCl G ad D1) → va_S A s.heap H locs → lv_has ls 9 [(0, .ref ad.2.2.1), (1, .int (nI (N 2))), (3, .int r), (4, .int fv), (5, .int 1)] → W p l e ({ frames := 6, cells := 0, slots := 0, locals := 147 } : Room) s m args below meth c H locs 0 0 (MQ below (zQi G (fun (v : Int32) (D' : zDc) => v = 1 ∧ J n D' N) (fun D' => wCl G ad D') A) args s 0 0 A) (F0 m 183 ls []) := by
            intro D1 H locs ls h1 hP hD hS hl
            have M312 : ∀ (D1 : zDc) (H : Heap) (locs : List Loc) (ls : Array Slot), (J n D1 N) → va_P G.1 vwCl (wCl G ad D1) H → va_D A (wCl G ad D1) → va_S A s.heap H locs → lv_has ls 9 [(0, .ref ad.2.2.1), (1, .int (nI (N 2))), (3, .int r), (5, .int 1)] → W p l e ({ frames := 6, cells := 0, slots := 0, locals := 147 } : Room) s m args below meth c H locs 0 0 (MQ below (zQi G (fun (v : Int32) (D' : zDc) => v = 1 ∧ J n D' N) (fun D' => wCl G ad D') A) args s 0 0 A) (F0 m 312 ls []) := by
              intro D1 H locs ls h1 hP hD hS hl
              refine lv_iconst (v := 0) hx hb dL_areForecastsSo_312 (by decide) ?_
              refine lv_istore (lv' := [(6, .int 0), (0, .ref ad.2.2.1), (1, .int (nI (N 2))), (3, .int r), (5, .int 1)]) hx hb dL_areForecastsSo_313 hl (by decide) rfl (fun ls hl => ?_)
              refine lv_iconst (v := 0) hx hb dL_areForecastsSo_315 (by decide) ?_
              refine lv_istore (lv' := [(7, .int 0), (6, .int 0), (0, .ref ad.2.2.1), (1, .int (nI (N 2))), (3, .int r), (5, .int 1)]) hx hb dL_areForecastsSo_316 hl (by decide) rfl (fun ls hl => ?_)
              have L318 : ∀ (n9 : Nat) (k : Nat) (D1 : zDc) (m1 : Nat) (M1 : zN) (y6 : Nat), 3 < k + n9 → (J m1 D1 M1) → (Ud n N k D1) → (m1 ≤ n + k) → (M1 0 = N 0) → (M1 2 = N 2) → (rtG r k → M1 1 = gnN N k) → (k ≤ 3) → (y6 ≤ 9) → ∀ (H : Heap) (locs : List Loc) (ls : Array Slot), va_P G.1 vwCl (wCl G ad D1) H → va_D A (wCl G ad D1) → va_S A s.heap H locs → lv_has ls 9 [(0, .ref ad.2.2.1), (1, .int (nI (N 2))), (3, .int r), (5, .int 1), (6, .int (nI y6)), (7, .int (nI k))] → W p l e ({ frames := 6, cells := 0, slots := 0, locals := 147 } : Room) s m args below meth c H locs 0 0 (MQ below (zQi G (fun (v : Int32) (D' : zDc) => v = 1 ∧ J n D' N) (fun D' => wCl G ad D') A) args s 0 0 A) (F0 m 318 ls []) := by
                intro n9
                induction n9 with
                | zero =>
                  intro k D1 m1 M1 y6 z hJ hU hm g0 g2 hg hk hy
                  exact absurd z (by omega)
                | succ n9 ih =>
                  intro k D1 m1 M1 y6 hz hJ hU hm g0 g2 hg hk hy H locs ls hP hD hS hl
                  refine lv_iload hx hb dL_areForecastsSo_318 (lv_at hl 5 rfl) ?_
                  refine lv_iconst (v := 3) hx hb dL_areForecastsSo_320 (by decide) ?_
                  refine lv_icmp_ge (tgt := 395) hx hb dL_areForecastsSo_321 (by decide) (fun c_2 => ?_) (fun c_2 => ?_)
                  · have hk3 : k = 3 := by
                      have := (z_le (a := 3) rfl rfl (by omega) (by omega)).mp c_2
                      omega
                    refine lv_iconst (v := 0) hx hb dL_areForecastsSo_395 (by decide) ?_
                    refine lv_istore (lv' := [(7, .int 0), (0, .ref ad.2.2.1), (1, .int (nI (N 2))), (3, .int r), (5, .int 1), (6, .int (nI y6))]) hx hb dL_areForecastsSo_396 hl (by decide) rfl (fun ls hl => ?_)
                    have L398 : ∀ (n9 : Nat) (k : Nat) (D1 : zDc) (y6 : Nat), 3 < k + n9 → (∃ m M, J m D1 M) → (Ud n N (3 - k) D1) → (k ≤ 3) → (y6 ≤ 9) → ∀ (H : Heap) (locs : List Loc) (ls : Array Slot), va_P G.1 vwCl (wCl G ad D1) H → va_D A (wCl G ad D1) → va_S A s.heap H locs → lv_has ls 9 [(0, .ref ad.2.2.1), (1, .int (nI (N 2))), (5, .int 1), (6, .int (nI y6)), (7, .int (nI k))] → W p l e ({ frames := 6, cells := 0, slots := 0, locals := 147 } : Room) s m args below meth c H locs 0 0 (MQ below (zQi G (fun (v : Int32) (D' : zDc) => v = 1 ∧ J n D' N) (fun D' => wCl G ad D') A) args s 0 0 A) (F0 m 398 ls []) := by
                      intro n9
                      induction n9 with
                      | zero =>
                        intro k D1 y6 z hJ hU hk hy
                        exact absurd z (by omega)
                      | succ n9 ih =>
                        intro k D1 y6 hz hJ hU hk hy H locs ls hP hD hS hl
                        refine lv_iload hx hb dL_areForecastsSo_398 (lv_at hl 4 rfl) ?_
                        refine lv_iconst (v := 3) hx hb dL_areForecastsSo_400 (by decide) ?_
                        refine lv_icmp_ge (tgt := 416) hx hb dL_areForecastsSo_401 (by decide) (fun c_3 => ?_) (fun c_3 => ?_)
                        · have hk3 : k = 3 := by
                            have := (z_le (a := 3) rfl rfl (by omega) (by omega)).mp c_3
                            omega
                          obtain ⟨m9, M9, hJ9⟩ := hJ
                          have hU0 : Ud n N 0 D1 := by
                            rw [hk3] at hU
                            exact hU
                          refine lv_iload hx hb dL_areForecastsSo_416 (lv_at hl 2 rfl) ?_
                          refine lv_if_eq (tgt := 430) hx hb dL_areForecastsSo_418 (by decide) (fun c_4 => absurd ((t_eq (show (1 : Int32).toInt = 1 by decide) (show (0 : Int32).toInt = 0 by decide)).mp c_4) (by omega)) (fun c_4 => ?_)
                          refine lv_iload hx hb dL_areForecastsSo_421 (lv_at hl 3 rfl) ?_
                          refine lv_if_lt (tgt := 430) hx hb dL_areForecastsSo_423 (by decide) (fun c_5 => absurd ((t_lt (nI_toInt (n := y6) (by omega)) (show (0 : Int32).toInt = 0 by decide)).mp c_5) (by omega)) (fun c_5 => ?_)
                          refine lv_iconst (v := 1) hx hb dL_areForecastsSo_426 (by decide) ?_
                          refine lv_goto (tgt := 431) hx hb dL_areForecastsSo_427 (by decide) ?_
                          exact z_iret hx hb hr rfl hlocks D1 hP hD hS (Nat.le_of_ble_eq_true rfl) (Nat.le_of_ble_eq_true rfl) dL_areForecastsSo_431 ⟨rfl, Ud_J hU0 hJ9⟩
                        · have hk3 : k < 3 := Nat.not_le.mp (fun z => c_3 ((z_le (a := 3) rfl rfl (by omega) (by omega)).mpr z))
                          refine lv_aload_n hx hb dL_areForecastsSo_404 rfl (lv_at hl 0 rfl) ?_
                          have hU9 : Ud n N (2 - k + 1) D1 := by
                            rw [show 2 - k + 1 = 3 - k by omega]
                            exact hU
                          obtain ⟨m9, M9, hJ9⟩ := hJ
                          refine z_callA (va_runV (As := []) (rest := []) ⟨hx, hb, hml, hown, hts⟩ (pC_undo' l G H.size ad hJ9 hU9) (cwV 0 hts gL_areForecastsSo_X5_undo rfl rfl rfl (by decide +kernel) ⟨(Nat.le_of_ble_eq_true rfl), (Nat.le_of_ble_eq_true rfl)⟩) (zV (ci := 5) (q0 := 0) hK hP hD rfl (wCl_0 G ad D1)) rfl rfl hl.1 rfl (lv_room (Nat.le_of_ble_eq_true rfl)) dL_areForecastsSo_405 ⟨(Nat.le_of_ble_eq_true rfl), (Nat.le_of_ble_eq_true rfl)⟩) hP hD hS hA (fun v_6 D_6 H locs k_6 hP hD hS => ?_)
                          obtain ⟨⟨jj6, jl6, rfl⟩, ⟨m6, M6, kJ6⟩, kU6⟩ := k_6
                          refine lv_istore (lv' := [(6, .int (nI jj6)), (0, .ref ad.2.2.1), (1, .int (nI (N 2))), (5, .int 1), (7, .int (nI k))]) hx hb dL_areForecastsSo_408 hl (by decide) rfl (fun ls hl => ?_)
                          refine lv_iinc (v := nI (k + 1)) (lv' := [(7, .int (nI (k + 1))), (6, .int (nI jj6)), (0, .ref ad.2.2.1), (1, .int (nI (N 2))), (5, .int 1)]) hx hb dL_areForecastsSo_410 hl (k := 4) rfl (nI_1 k) (by decide) rfl (fun ls hl => ?_)
                          refine lv_goto (tgt := 398) hx hb dL_areForecastsSo_413 (by decide) ?_
                          exact ih (k + 1) D_6 jj6 (by omega) ⟨_, _, kJ6⟩ (by rw [show 3 - (k + 1) = 2 - k by omega]; exact kU6) (by omega) (by omega) _ _ _ hP hD hS (lv_sub hl [2, 3, 4, 1, 0] rfl)
                    exact L398 20 0 D1 y6 (by omega) ⟨_, _, hJ⟩ (by rw [← hk3]; exact hU) (by omega) (by omega) _ _ _ hP hD hS (lv_sub hl [1, 2, 4, 5, 0] rfl)
                  · have hk3 : k < 3 := Nat.not_le.mp (fun z => c_2 ((z_le (a := 3) rfl rfl (by omega) (by omega)).mpr z))
                    have ho := fr_own (c := 0) (t := 0) (st := 10) hJ.2.1 (Nat.le_of_ble_eq_true rfl) (Nat.le_of_ble_eq_true rfl)
                    rw [g2] at ho
                    have fA := fr_all (a := N 2) (c := 0) (t := 0) (st := 10) hJ.2.1
                    rcases id hrt with ⟨k0, k0l, rfl, nb, al⟩ | ⟨rfl, al⟩
                    · rcases (show k < k0 ∨ k = k0 ∨ k0 < k by omega) with h3 | h3 | h3
                      · have hM1 := hg (Or.inr ⟨k0, rfl, k0l, by omega⟩)
                        have hbad : bad M1 10 := Or.inr (by rw [g0, hM1]; exact (al k h3))
                        obtain ⟨q, q1, q2, ev, e1⟩ := fr_bad hJ.2.1 hbad g0 hM1
                        rw [g2] at ev e1
                        obtain ⟨M2, hf9⟩ : ∃ M2, frV M1 (N 2) 0 0 10 = (nI q, M2) := ⟨_, Prod.ext ev rfl⟩
                        rw [hf9] at e1
                        have e1 : M2 1 = gnN N (k + 1) := e1
                        rw [hf9] at fA
                        have f2 : M2 2 = M1 2 := fA.2.1
                        have f0 : M2 0 = M1 0 := fA.2.2.2
                        clear fA
                        refine lv_aload_n hx hb dL_areForecastsSo_324 rfl (lv_at hl 0 rfl) ?_
                        refine lv_iload_n hx hb dL_areForecastsSo_325 rfl (lv_at hl 1 rfl) ?_
                        refine lv_iconst (v := 0) hx hb dL_areForecastsSo_326 (by decide) ?_
                        refine lv_iconst (v := 0) hx hb dL_areForecastsSo_327 (by decide) ?_
                        refine lv_bipush (v := 10) hx hb dL_areForecastsSo_328 (by decide) ?_
                        refine z_callM (val := nI q) (va_runV (As := [.int (nI (N 2)), .int 0, .int 0, .int 10]) (rest := []) ⟨hx, hb, hml, hown, hts⟩ (pC_frame' l G H.size ad hJ (by omega) hU (by omega) (a9 := N 2) (c9 := 0) (g9 := 0) (st := 10) (by omega) (Nat.le_of_ble_eq_true rfl) (Nat.le_of_ble_eq_true rfl) (Nat.le_of_ble_eq_true rfl) (Nat.le_of_ble_eq_true rfl) (V := nI q) (M := M2) hf9) (cwV 4 hts gL_areForecastsSo_X5_frame rfl rfl rfl (by decide +kernel) ⟨(Nat.le_of_ble_eq_true rfl), (Nat.le_of_ble_eq_true rfl)⟩) (zV (ci := 5) (q0 := 0) hK hP hD rfl (wCl_0 G ad D1)) rfl rfl hl.1 rfl (lv_room (Nat.le_of_ble_eq_true rfl)) dL_areForecastsSo_330 ⟨(Nat.le_of_ble_eq_true rfl), (Nat.le_of_ble_eq_true rfl)⟩) hP hD hS hA (fun D_7 H locs k_7 hP hD hS => ?_)
                        refine lv_istore (lv' := [(8, .int (nI q)), (0, .ref ad.2.2.1), (1, .int (nI (N 2))), (3, .int (nI k0)), (5, .int 1), (6, .int (nI y6)), (7, .int (nI k))]) hx hb dL_areForecastsSo_333 hl (by decide) rfl (fun ls hl => ?_)
                        refine lv_iload hx hb dL_areForecastsSo_335 (lv_at hl 4 rfl) ?_
                        refine lv_if_eq (tgt := 382) hx hb dL_areForecastsSo_337 (by decide) (fun c_8 => absurd ((t_eq (show (1 : Int32).toInt = 1 by decide) (show (0 : Int32).toInt = 0 by decide)).mp c_8) (by omega)) (fun c_8 => ?_)
                        refine lv_iload hx hb dL_areForecastsSo_340 (lv_at hl 6 rfl) ?_
                        refine lv_iload_n hx hb dL_areForecastsSo_342 rfl (lv_at hl 3 rfl) ?_
                        refine lv_icmp_le (tgt := 350) hx hb dL_areForecastsSo_343 (by decide) (fun c_9 => ?_) (fun c_9 => absurd ((t_le (nI_toInt (n := k) (by omega)) (nI_toInt (n := k0) (by omega))).mpr (by omega)) c_9)
                        refine lv_iload hx hb dL_areForecastsSo_350 (lv_at hl 0 rfl) ?_
                        refine lv_if_le (tgt := 359) hx hb dL_areForecastsSo_352 (by decide) (fun c_10 => absurd ((t_le (nI_toInt (n := q) (by omega)) (show (0 : Int32).toInt = 0 by decide)).mp c_10) (by omega)) (fun c_10 => ?_)
                        refine lv_iconst (v := 1) hx hb dL_areForecastsSo_355 (by decide) ?_
                        refine lv_goto (tgt := 360) hx hb dL_areForecastsSo_356 (by decide) ?_
                        refine lv_iload_n hx hb dL_areForecastsSo_360 rfl (lv_at hl 3 rfl) ?_
                        refine lv_if_lt (tgt := 370) hx hb dL_areForecastsSo_361 (by decide) (fun c_11 => absurd ((t_lt (nI_toInt (n := k0) (by omega)) (show (0 : Int32).toInt = 0 by decide)).mp c_11) (by omega)) (fun c_11 => ?_)
                        refine lv_iload hx hb dL_areForecastsSo_364 (lv_at hl 6 rfl) ?_
                        refine lv_iload_n hx hb dL_areForecastsSo_366 rfl (lv_at hl 3 rfl) ?_
                        refine lv_icmp_ge (tgt := 374) hx hb dL_areForecastsSo_367 (by decide) (fun c_12 => absurd ((t_le (nI_toInt (n := k0) (by omega)) (nI_toInt (n := k) (by omega))).mp c_12) (by omega)) (fun c_12 => ?_)
                        refine lv_iconst (v := 1) hx hb dL_areForecastsSo_370 (by decide) ?_
                        refine lv_goto (tgt := 375) hx hb dL_areForecastsSo_371 (by decide) ?_
                        refine lv_icmp_ne (tgt := 382) hx hb dL_areForecastsSo_375 (by decide) (fun c_13 => absurd ((t_eq (show (1 : Int32).toInt = 1 by decide) (show (1 : Int32).toInt = 1 by decide)).mpr (by omega)) c_13) (fun c_13 => ?_)
                        refine lv_iconst (v := 1) hx hb dL_areForecastsSo_378 (by decide) ?_
                        refine lv_goto (tgt := 383) hx hb dL_areForecastsSo_379 (by decide) ?_
                        refine lv_istore (lv' := [(5, .int 1), (8, .int (nI q)), (0, .ref ad.2.2.1), (1, .int (nI (N 2))), (3, .int (nI k0)), (6, .int (nI y6)), (7, .int (nI k))]) hx hb dL_areForecastsSo_383 hl (by decide) rfl (fun ls hl => ?_)
                        refine lv_iload hx hb dL_areForecastsSo_385 (lv_at hl 6 rfl) ?_
                        refine lv_istore (lv' := [(6, .int (nI k)), (5, .int 1), (8, .int (nI q)), (0, .ref ad.2.2.1), (1, .int (nI (N 2))), (3, .int (nI k0)), (7, .int (nI k))]) hx hb dL_areForecastsSo_387 hl (by decide) rfl (fun ls hl => ?_)
                        refine lv_iinc (v := nI (k + 1)) (lv' := [(7, .int (nI (k + 1))), (6, .int (nI k)), (5, .int 1), (8, .int (nI q)), (0, .ref ad.2.2.1), (1, .int (nI (N 2))), (3, .int (nI k0))]) hx hb dL_areForecastsSo_389 hl (k := 6) rfl (nI_1 k) (by decide) rfl (fun ls hl => ?_)
                        refine lv_goto (tgt := 318) hx hb dL_areForecastsSo_392 (by decide) ?_
                        exact ih (k + 1) D_7 (m1 + 1) M2 k (by omega) k_7.1 k_7.2 (by omega) (f0.trans g0) (f2.trans g2) (fun _ => e1) (by omega) (by omega) _ _ _ hP hD hS (lv_sub hl [4, 5, 6, 2, 1, 0] rfl)
                      · have hM1 := hg (Or.inr ⟨k0, rfl, k0l, by omega⟩)
                        have nb9 : ¬ bad M1 10 := by
                          have z : ¬ 60 ≤ M1 0 * M1 1 := by
                            rw [g0, hM1, h3]
                            exact nb
                          have z1 := hJ.2.1.1.2.1
                          unfold bad
                          omega
                        rcases ho.2 nb9 with ev | ev
                        · obtain ⟨M2, hf9⟩ : ∃ M2, frV M1 (N 2) 0 0 10 = (0, M2) := ⟨_, Prod.ext ev rfl⟩
                          rw [hf9] at fA
                          have f2 : M2 2 = M1 2 := fA.2.1
                          have f0 : M2 0 = M1 0 := fA.2.2.2
                          clear fA
                          refine lv_aload_n hx hb dL_areForecastsSo_324 rfl (lv_at hl 0 rfl) ?_
                          refine lv_iload_n hx hb dL_areForecastsSo_325 rfl (lv_at hl 1 rfl) ?_
                          refine lv_iconst (v := 0) hx hb dL_areForecastsSo_326 (by decide) ?_
                          refine lv_iconst (v := 0) hx hb dL_areForecastsSo_327 (by decide) ?_
                          refine lv_bipush (v := 10) hx hb dL_areForecastsSo_328 (by decide) ?_
                          refine z_callM (val := 0) (va_runV (As := [.int (nI (N 2)), .int 0, .int 0, .int 10]) (rest := []) ⟨hx, hb, hml, hown, hts⟩ (pC_frame' l G H.size ad hJ (by omega) hU (by omega) (a9 := N 2) (c9 := 0) (g9 := 0) (st := 10) (by omega) (Nat.le_of_ble_eq_true rfl) (Nat.le_of_ble_eq_true rfl) (Nat.le_of_ble_eq_true rfl) (Nat.le_of_ble_eq_true rfl) (V := 0) (M := M2) hf9) (cwV 4 hts gL_areForecastsSo_X5_frame rfl rfl rfl (by decide +kernel) ⟨(Nat.le_of_ble_eq_true rfl), (Nat.le_of_ble_eq_true rfl)⟩) (zV (ci := 5) (q0 := 0) hK hP hD rfl (wCl_0 G ad D1)) rfl rfl hl.1 rfl (lv_room (Nat.le_of_ble_eq_true rfl)) dL_areForecastsSo_330 ⟨(Nat.le_of_ble_eq_true rfl), (Nat.le_of_ble_eq_true rfl)⟩) hP hD hS hA (fun D_14 H locs k_14 hP hD hS => ?_)
                          refine lv_istore (lv' := [(8, .int 0), (0, .ref ad.2.2.1), (1, .int (nI (N 2))), (3, .int (nI k0)), (5, .int 1), (6, .int (nI y6)), (7, .int (nI k))]) hx hb dL_areForecastsSo_333 hl (by decide) rfl (fun ls hl => ?_)
                          refine lv_iload hx hb dL_areForecastsSo_335 (lv_at hl 4 rfl) ?_
                          refine lv_if_eq (tgt := 382) hx hb dL_areForecastsSo_337 (by decide) (fun c_15 => absurd ((t_eq (show (1 : Int32).toInt = 1 by decide) (show (0 : Int32).toInt = 0 by decide)).mp c_15) (by omega)) (fun c_15 => ?_)
                          refine lv_iload hx hb dL_areForecastsSo_340 (lv_at hl 6 rfl) ?_
                          refine lv_iload_n hx hb dL_areForecastsSo_342 rfl (lv_at hl 3 rfl) ?_
                          refine lv_icmp_le (tgt := 350) hx hb dL_areForecastsSo_343 (by decide) (fun c_16 => ?_) (fun c_16 => absurd ((t_le (nI_toInt (n := k) (by omega)) (nI_toInt (n := k0) (by omega))).mpr (by omega)) c_16)
                          refine lv_iload hx hb dL_areForecastsSo_350 (lv_at hl 0 rfl) ?_
                          refine lv_if_le (tgt := 359) hx hb dL_areForecastsSo_352 (by decide) (fun c_17 => ?_) (fun c_17 => absurd ((t_le (show (0 : Int32).toInt = 0 by decide) (show (0 : Int32).toInt = 0 by decide)).mpr (by omega)) c_17)
                          refine lv_iconst (v := 0) hx hb dL_areForecastsSo_359 (by decide) ?_
                          refine lv_iload_n hx hb dL_areForecastsSo_360 rfl (lv_at hl 3 rfl) ?_
                          refine lv_if_lt (tgt := 370) hx hb dL_areForecastsSo_361 (by decide) (fun c_18 => absurd ((t_lt (nI_toInt (n := k0) (by omega)) (show (0 : Int32).toInt = 0 by decide)).mp c_18) (by omega)) (fun c_18 => ?_)
                          refine lv_iload hx hb dL_areForecastsSo_364 (lv_at hl 6 rfl) ?_
                          refine lv_iload_n hx hb dL_areForecastsSo_366 rfl (lv_at hl 3 rfl) ?_
                          refine lv_icmp_ge (tgt := 374) hx hb dL_areForecastsSo_367 (by decide) (fun c_19 => ?_) (fun c_19 => absurd ((t_le (nI_toInt (n := k0) (by omega)) (nI_toInt (n := k) (by omega))).mpr (by omega)) c_19)
                          refine lv_iconst (v := 0) hx hb dL_areForecastsSo_374 (by decide) ?_
                          refine lv_icmp_ne (tgt := 382) hx hb dL_areForecastsSo_375 (by decide) (fun c_20 => absurd ((t_eq (show (0 : Int32).toInt = 0 by decide) (show (0 : Int32).toInt = 0 by decide)).mpr (by omega)) c_20) (fun c_20 => ?_)
                          refine lv_iconst (v := 1) hx hb dL_areForecastsSo_378 (by decide) ?_
                          refine lv_goto (tgt := 383) hx hb dL_areForecastsSo_379 (by decide) ?_
                          refine lv_istore (lv' := [(5, .int 1), (8, .int 0), (0, .ref ad.2.2.1), (1, .int (nI (N 2))), (3, .int (nI k0)), (6, .int (nI y6)), (7, .int (nI k))]) hx hb dL_areForecastsSo_383 hl (by decide) rfl (fun ls hl => ?_)
                          refine lv_iload hx hb dL_areForecastsSo_385 (lv_at hl 6 rfl) ?_
                          refine lv_istore (lv' := [(6, .int (nI k)), (5, .int 1), (8, .int 0), (0, .ref ad.2.2.1), (1, .int (nI (N 2))), (3, .int (nI k0)), (7, .int (nI k))]) hx hb dL_areForecastsSo_387 hl (by decide) rfl (fun ls hl => ?_)
                          refine lv_iinc (v := nI (k + 1)) (lv' := [(7, .int (nI (k + 1))), (6, .int (nI k)), (5, .int 1), (8, .int 0), (0, .ref ad.2.2.1), (1, .int (nI (N 2))), (3, .int (nI k0))]) hx hb dL_areForecastsSo_389 hl (k := 6) rfl (nI_1 k) (by decide) rfl (fun ls hl => ?_)
                          refine lv_goto (tgt := 318) hx hb dL_areForecastsSo_392 (by decide) ?_
                          exact ih (k + 1) D_14 (m1 + 1) M2 k (by omega) k_14.1 k_14.2 (by omega) (f0.trans g0) (f2.trans g2) (fun z => absurd z (rtG_not (by omega) k0l)) (by omega) (by omega) _ _ _ hP hD hS (lv_sub hl [4, 5, 6, 2, 1, 0] rfl)
                        · obtain ⟨M2, hf9⟩ : ∃ M2, frV M1 (N 2) 0 0 10 = ((-1), M2) := ⟨_, Prod.ext ev rfl⟩
                          rw [hf9] at fA
                          have f2 : M2 2 = M1 2 := fA.2.1
                          have f0 : M2 0 = M1 0 := fA.2.2.2
                          clear fA
                          refine lv_aload_n hx hb dL_areForecastsSo_324 rfl (lv_at hl 0 rfl) ?_
                          refine lv_iload_n hx hb dL_areForecastsSo_325 rfl (lv_at hl 1 rfl) ?_
                          refine lv_iconst (v := 0) hx hb dL_areForecastsSo_326 (by decide) ?_
                          refine lv_iconst (v := 0) hx hb dL_areForecastsSo_327 (by decide) ?_
                          refine lv_bipush (v := 10) hx hb dL_areForecastsSo_328 (by decide) ?_
                          refine z_callM (val := (-1)) (va_runV (As := [.int (nI (N 2)), .int 0, .int 0, .int 10]) (rest := []) ⟨hx, hb, hml, hown, hts⟩ (pC_frame' l G H.size ad hJ (by omega) hU (by omega) (a9 := N 2) (c9 := 0) (g9 := 0) (st := 10) (by omega) (Nat.le_of_ble_eq_true rfl) (Nat.le_of_ble_eq_true rfl) (Nat.le_of_ble_eq_true rfl) (Nat.le_of_ble_eq_true rfl) (V := (-1)) (M := M2) hf9) (cwV 4 hts gL_areForecastsSo_X5_frame rfl rfl rfl (by decide +kernel) ⟨(Nat.le_of_ble_eq_true rfl), (Nat.le_of_ble_eq_true rfl)⟩) (zV (ci := 5) (q0 := 0) hK hP hD rfl (wCl_0 G ad D1)) rfl rfl hl.1 rfl (lv_room (Nat.le_of_ble_eq_true rfl)) dL_areForecastsSo_330 ⟨(Nat.le_of_ble_eq_true rfl), (Nat.le_of_ble_eq_true rfl)⟩) hP hD hS hA (fun D_21 H locs k_21 hP hD hS => ?_)
                          refine lv_istore (lv' := [(8, .int (-1)), (0, .ref ad.2.2.1), (1, .int (nI (N 2))), (3, .int (nI k0)), (5, .int 1), (6, .int (nI y6)), (7, .int (nI k))]) hx hb dL_areForecastsSo_333 hl (by decide) rfl (fun ls hl => ?_)
                          refine lv_iload hx hb dL_areForecastsSo_335 (lv_at hl 4 rfl) ?_
                          refine lv_if_eq (tgt := 382) hx hb dL_areForecastsSo_337 (by decide) (fun c_22 => absurd ((t_eq (show (1 : Int32).toInt = 1 by decide) (show (0 : Int32).toInt = 0 by decide)).mp c_22) (by omega)) (fun c_22 => ?_)
                          refine lv_iload hx hb dL_areForecastsSo_340 (lv_at hl 6 rfl) ?_
                          refine lv_iload_n hx hb dL_areForecastsSo_342 rfl (lv_at hl 3 rfl) ?_
                          refine lv_icmp_le (tgt := 350) hx hb dL_areForecastsSo_343 (by decide) (fun c_23 => ?_) (fun c_23 => absurd ((t_le (nI_toInt (n := k) (by omega)) (nI_toInt (n := k0) (by omega))).mpr (by omega)) c_23)
                          refine lv_iload hx hb dL_areForecastsSo_350 (lv_at hl 0 rfl) ?_
                          refine lv_if_le (tgt := 359) hx hb dL_areForecastsSo_352 (by decide) (fun c_24 => ?_) (fun c_24 => absurd ((t_le (show (-1 : Int32).toInt = -1 by decide) (show (0 : Int32).toInt = 0 by decide)).mpr (by omega)) c_24)
                          refine lv_iconst (v := 0) hx hb dL_areForecastsSo_359 (by decide) ?_
                          refine lv_iload_n hx hb dL_areForecastsSo_360 rfl (lv_at hl 3 rfl) ?_
                          refine lv_if_lt (tgt := 370) hx hb dL_areForecastsSo_361 (by decide) (fun c_25 => absurd ((t_lt (nI_toInt (n := k0) (by omega)) (show (0 : Int32).toInt = 0 by decide)).mp c_25) (by omega)) (fun c_25 => ?_)
                          refine lv_iload hx hb dL_areForecastsSo_364 (lv_at hl 6 rfl) ?_
                          refine lv_iload_n hx hb dL_areForecastsSo_366 rfl (lv_at hl 3 rfl) ?_
                          refine lv_icmp_ge (tgt := 374) hx hb dL_areForecastsSo_367 (by decide) (fun c_26 => ?_) (fun c_26 => absurd ((t_le (nI_toInt (n := k0) (by omega)) (nI_toInt (n := k) (by omega))).mpr (by omega)) c_26)
                          refine lv_iconst (v := 0) hx hb dL_areForecastsSo_374 (by decide) ?_
                          refine lv_icmp_ne (tgt := 382) hx hb dL_areForecastsSo_375 (by decide) (fun c_27 => absurd ((t_eq (show (0 : Int32).toInt = 0 by decide) (show (0 : Int32).toInt = 0 by decide)).mpr (by omega)) c_27) (fun c_27 => ?_)
                          refine lv_iconst (v := 1) hx hb dL_areForecastsSo_378 (by decide) ?_
                          refine lv_goto (tgt := 383) hx hb dL_areForecastsSo_379 (by decide) ?_
                          refine lv_istore (lv' := [(5, .int 1), (8, .int (-1)), (0, .ref ad.2.2.1), (1, .int (nI (N 2))), (3, .int (nI k0)), (6, .int (nI y6)), (7, .int (nI k))]) hx hb dL_areForecastsSo_383 hl (by decide) rfl (fun ls hl => ?_)
                          refine lv_iload hx hb dL_areForecastsSo_385 (lv_at hl 6 rfl) ?_
                          refine lv_istore (lv' := [(6, .int (nI k)), (5, .int 1), (8, .int (-1)), (0, .ref ad.2.2.1), (1, .int (nI (N 2))), (3, .int (nI k0)), (7, .int (nI k))]) hx hb dL_areForecastsSo_387 hl (by decide) rfl (fun ls hl => ?_)
                          refine lv_iinc (v := nI (k + 1)) (lv' := [(7, .int (nI (k + 1))), (6, .int (nI k)), (5, .int 1), (8, .int (-1)), (0, .ref ad.2.2.1), (1, .int (nI (N 2))), (3, .int (nI k0))]) hx hb dL_areForecastsSo_389 hl (k := 6) rfl (nI_1 k) (by decide) rfl (fun ls hl => ?_)
                          refine lv_goto (tgt := 318) hx hb dL_areForecastsSo_392 (by decide) ?_
                          exact ih (k + 1) D_21 (m1 + 1) M2 k (by omega) k_21.1 k_21.2 (by omega) (f0.trans g0) (f2.trans g2) (fun z => absurd z (rtG_not (by omega) k0l)) (by omega) (by omega) _ _ _ hP hD hS (lv_sub hl [4, 5, 6, 2, 1, 0] rfl)
                      · obtain ⟨V9, hV9⟩ : ∃ V9, (frV M1 (N 2) 0 0 10).1 = V9 := ⟨_, rfl⟩
                        obtain ⟨M2, hf9⟩ : ∃ M2, frV M1 (N 2) 0 0 10 = (V9, M2) := ⟨_, Prod.ext hV9 rfl⟩
                        rw [hf9] at fA
                        have f2 : M2 2 = M1 2 := fA.2.1
                        have f0 : M2 0 = M1 0 := fA.2.2.2
                        clear fA
                        refine lv_aload_n hx hb dL_areForecastsSo_324 rfl (lv_at hl 0 rfl) ?_
                        refine lv_iload_n hx hb dL_areForecastsSo_325 rfl (lv_at hl 1 rfl) ?_
                        refine lv_iconst (v := 0) hx hb dL_areForecastsSo_326 (by decide) ?_
                        refine lv_iconst (v := 0) hx hb dL_areForecastsSo_327 (by decide) ?_
                        refine lv_bipush (v := 10) hx hb dL_areForecastsSo_328 (by decide) ?_
                        refine z_callM (val := V9) (va_runV (As := [.int (nI (N 2)), .int 0, .int 0, .int 10]) (rest := []) ⟨hx, hb, hml, hown, hts⟩ (pC_frame' l G H.size ad hJ (by omega) hU (by omega) (a9 := N 2) (c9 := 0) (g9 := 0) (st := 10) (by omega) (Nat.le_of_ble_eq_true rfl) (Nat.le_of_ble_eq_true rfl) (Nat.le_of_ble_eq_true rfl) (Nat.le_of_ble_eq_true rfl) (V := V9) (M := M2) hf9) (cwV 4 hts gL_areForecastsSo_X5_frame rfl rfl rfl (by decide +kernel) ⟨(Nat.le_of_ble_eq_true rfl), (Nat.le_of_ble_eq_true rfl)⟩) (zV (ci := 5) (q0 := 0) hK hP hD rfl (wCl_0 G ad D1)) rfl rfl hl.1 rfl (lv_room (Nat.le_of_ble_eq_true rfl)) dL_areForecastsSo_330 ⟨(Nat.le_of_ble_eq_true rfl), (Nat.le_of_ble_eq_true rfl)⟩) hP hD hS hA (fun D_28 H locs k_28 hP hD hS => ?_)
                        refine lv_istore (lv' := [(8, .int V9), (0, .ref ad.2.2.1), (1, .int (nI (N 2))), (3, .int (nI k0)), (5, .int 1), (6, .int (nI y6)), (7, .int (nI k))]) hx hb dL_areForecastsSo_333 hl (by decide) rfl (fun ls hl => ?_)
                        refine lv_iload hx hb dL_areForecastsSo_335 (lv_at hl 4 rfl) ?_
                        refine lv_if_eq (tgt := 382) hx hb dL_areForecastsSo_337 (by decide) (fun c_29 => absurd ((t_eq (show (1 : Int32).toInt = 1 by decide) (show (0 : Int32).toInt = 0 by decide)).mp c_29) (by omega)) (fun c_29 => ?_)
                        refine lv_iload hx hb dL_areForecastsSo_340 (lv_at hl 6 rfl) ?_
                        refine lv_iload_n hx hb dL_areForecastsSo_342 rfl (lv_at hl 3 rfl) ?_
                        refine lv_icmp_le (tgt := 350) hx hb dL_areForecastsSo_343 (by decide) (fun c_30 => absurd ((t_le (nI_toInt (n := k) (by omega)) (nI_toInt (n := k0) (by omega))).mp c_30) (by omega)) (fun c_30 => ?_)
                        refine lv_iload_n hx hb dL_areForecastsSo_346 rfl (lv_at hl 3 rfl) ?_
                        refine lv_if_ge (tgt := 378) hx hb dL_areForecastsSo_347 (by decide) (fun c_31 => ?_) (fun c_31 => absurd ((t_le (show (0 : Int32).toInt = 0 by decide) (nI_toInt (n := k0) (by omega))).mpr (by omega)) c_31)
                        refine lv_iconst (v := 1) hx hb dL_areForecastsSo_378 (by decide) ?_
                        refine lv_goto (tgt := 383) hx hb dL_areForecastsSo_379 (by decide) ?_
                        refine lv_istore (lv' := [(5, .int 1), (8, .int V9), (0, .ref ad.2.2.1), (1, .int (nI (N 2))), (3, .int (nI k0)), (6, .int (nI y6)), (7, .int (nI k))]) hx hb dL_areForecastsSo_383 hl (by decide) rfl (fun ls hl => ?_)
                        refine lv_iload hx hb dL_areForecastsSo_385 (lv_at hl 6 rfl) ?_
                        refine lv_istore (lv' := [(6, .int (nI k)), (5, .int 1), (8, .int V9), (0, .ref ad.2.2.1), (1, .int (nI (N 2))), (3, .int (nI k0)), (7, .int (nI k))]) hx hb dL_areForecastsSo_387 hl (by decide) rfl (fun ls hl => ?_)
                        refine lv_iinc (v := nI (k + 1)) (lv' := [(7, .int (nI (k + 1))), (6, .int (nI k)), (5, .int 1), (8, .int V9), (0, .ref ad.2.2.1), (1, .int (nI (N 2))), (3, .int (nI k0))]) hx hb dL_areForecastsSo_389 hl (k := 6) rfl (nI_1 k) (by decide) rfl (fun ls hl => ?_)
                        refine lv_goto (tgt := 318) hx hb dL_areForecastsSo_392 (by decide) ?_
                        exact ih (k + 1) D_28 (m1 + 1) M2 k (by omega) k_28.1 k_28.2 (by omega) (f0.trans g0) (f2.trans g2) (fun z => absurd z (rtG_not (by omega) k0l)) (by omega) (by omega) _ _ _ hP hD hS (lv_sub hl [4, 5, 6, 2, 1, 0] rfl)
                    · have hM1 := hg (Or.inl rfl)
                      have hbad : bad M1 10 := Or.inr (by rw [g0, hM1]; exact (al k (by omega)))
                      obtain ⟨q, q1, q2, ev, e1⟩ := fr_bad hJ.2.1 hbad g0 hM1
                      rw [g2] at ev e1
                      obtain ⟨M2, hf9⟩ : ∃ M2, frV M1 (N 2) 0 0 10 = (nI q, M2) := ⟨_, Prod.ext ev rfl⟩
                      rw [hf9] at e1
                      have e1 : M2 1 = gnN N (k + 1) := e1
                      rw [hf9] at fA
                      have f2 : M2 2 = M1 2 := fA.2.1
                      have f0 : M2 0 = M1 0 := fA.2.2.2
                      clear fA
                      refine lv_aload_n hx hb dL_areForecastsSo_324 rfl (lv_at hl 0 rfl) ?_
                      refine lv_iload_n hx hb dL_areForecastsSo_325 rfl (lv_at hl 1 rfl) ?_
                      refine lv_iconst (v := 0) hx hb dL_areForecastsSo_326 (by decide) ?_
                      refine lv_iconst (v := 0) hx hb dL_areForecastsSo_327 (by decide) ?_
                      refine lv_bipush (v := 10) hx hb dL_areForecastsSo_328 (by decide) ?_
                      refine z_callM (val := nI q) (va_runV (As := [.int (nI (N 2)), .int 0, .int 0, .int 10]) (rest := []) ⟨hx, hb, hml, hown, hts⟩ (pC_frame' l G H.size ad hJ (by omega) hU (by omega) (a9 := N 2) (c9 := 0) (g9 := 0) (st := 10) (by omega) (Nat.le_of_ble_eq_true rfl) (Nat.le_of_ble_eq_true rfl) (Nat.le_of_ble_eq_true rfl) (Nat.le_of_ble_eq_true rfl) (V := nI q) (M := M2) hf9) (cwV 4 hts gL_areForecastsSo_X5_frame rfl rfl rfl (by decide +kernel) ⟨(Nat.le_of_ble_eq_true rfl), (Nat.le_of_ble_eq_true rfl)⟩) (zV (ci := 5) (q0 := 0) hK hP hD rfl (wCl_0 G ad D1)) rfl rfl hl.1 rfl (lv_room (Nat.le_of_ble_eq_true rfl)) dL_areForecastsSo_330 ⟨(Nat.le_of_ble_eq_true rfl), (Nat.le_of_ble_eq_true rfl)⟩) hP hD hS hA (fun D_32 H locs k_32 hP hD hS => ?_)
                      refine lv_istore (lv' := [(8, .int (nI q)), (0, .ref ad.2.2.1), (1, .int (nI (N 2))), (3, .int (-1)), (5, .int 1), (6, .int (nI y6)), (7, .int (nI k))]) hx hb dL_areForecastsSo_333 hl (by decide) rfl (fun ls hl => ?_)
                      refine lv_iload hx hb dL_areForecastsSo_335 (lv_at hl 4 rfl) ?_
                      refine lv_if_eq (tgt := 382) hx hb dL_areForecastsSo_337 (by decide) (fun c_33 => absurd ((t_eq (show (1 : Int32).toInt = 1 by decide) (show (0 : Int32).toInt = 0 by decide)).mp c_33) (by omega)) (fun c_33 => ?_)
                      refine lv_iload hx hb dL_areForecastsSo_340 (lv_at hl 6 rfl) ?_
                      refine lv_iload_n hx hb dL_areForecastsSo_342 rfl (lv_at hl 3 rfl) ?_
                      refine lv_icmp_le (tgt := 350) hx hb dL_areForecastsSo_343 (by decide) (fun c_34 => absurd ((t_le (nI_toInt (n := k) (by omega)) (show (-1 : Int32).toInt = -1 by decide)).mp c_34) (by omega)) (fun c_34 => ?_)
                      refine lv_iload_n hx hb dL_areForecastsSo_346 rfl (lv_at hl 3 rfl) ?_
                      refine lv_if_ge (tgt := 378) hx hb dL_areForecastsSo_347 (by decide) (fun c_35 => absurd ((t_le (show (0 : Int32).toInt = 0 by decide) (show (-1 : Int32).toInt = -1 by decide)).mp c_35) (by omega)) (fun c_35 => ?_)
                      refine lv_iload hx hb dL_areForecastsSo_350 (lv_at hl 0 rfl) ?_
                      refine lv_if_le (tgt := 359) hx hb dL_areForecastsSo_352 (by decide) (fun c_36 => absurd ((t_le (nI_toInt (n := q) (by omega)) (show (0 : Int32).toInt = 0 by decide)).mp c_36) (by omega)) (fun c_36 => ?_)
                      refine lv_iconst (v := 1) hx hb dL_areForecastsSo_355 (by decide) ?_
                      refine lv_goto (tgt := 360) hx hb dL_areForecastsSo_356 (by decide) ?_
                      refine lv_iload_n hx hb dL_areForecastsSo_360 rfl (lv_at hl 3 rfl) ?_
                      refine lv_if_lt (tgt := 370) hx hb dL_areForecastsSo_361 (by decide) (fun c_37 => ?_) (fun c_37 => absurd ((t_lt (show (-1 : Int32).toInt = -1 by decide) (show (0 : Int32).toInt = 0 by decide)).mpr (by omega)) c_37)
                      refine lv_iconst (v := 1) hx hb dL_areForecastsSo_370 (by decide) ?_
                      refine lv_goto (tgt := 375) hx hb dL_areForecastsSo_371 (by decide) ?_
                      refine lv_icmp_ne (tgt := 382) hx hb dL_areForecastsSo_375 (by decide) (fun c_38 => absurd ((t_eq (show (1 : Int32).toInt = 1 by decide) (show (1 : Int32).toInt = 1 by decide)).mpr (by omega)) c_38) (fun c_38 => ?_)
                      refine lv_iconst (v := 1) hx hb dL_areForecastsSo_378 (by decide) ?_
                      refine lv_goto (tgt := 383) hx hb dL_areForecastsSo_379 (by decide) ?_
                      refine lv_istore (lv' := [(5, .int 1), (8, .int (nI q)), (0, .ref ad.2.2.1), (1, .int (nI (N 2))), (3, .int (-1)), (6, .int (nI y6)), (7, .int (nI k))]) hx hb dL_areForecastsSo_383 hl (by decide) rfl (fun ls hl => ?_)
                      refine lv_iload hx hb dL_areForecastsSo_385 (lv_at hl 6 rfl) ?_
                      refine lv_istore (lv' := [(6, .int (nI k)), (5, .int 1), (8, .int (nI q)), (0, .ref ad.2.2.1), (1, .int (nI (N 2))), (3, .int (-1)), (7, .int (nI k))]) hx hb dL_areForecastsSo_387 hl (by decide) rfl (fun ls hl => ?_)
                      refine lv_iinc (v := nI (k + 1)) (lv' := [(7, .int (nI (k + 1))), (6, .int (nI k)), (5, .int 1), (8, .int (nI q)), (0, .ref ad.2.2.1), (1, .int (nI (N 2))), (3, .int (-1))]) hx hb dL_areForecastsSo_389 hl (k := 6) rfl (nI_1 k) (by decide) rfl (fun ls hl => ?_)
                      refine lv_goto (tgt := 318) hx hb dL_areForecastsSo_392 (by decide) ?_
                      exact ih (k + 1) D_32 (m1 + 1) M2 k (by omega) k_32.1 k_32.2 (by omega) (f0.trans g0) (f2.trans g2) (fun _ => e1) (by omega) (by omega) _ _ _ hP hD hS (lv_sub hl [4, 5, 6, 2, 1, 0] rfl)
              exact L318 20 0 D1 n N 0 (by omega) h1 (Ud_0 h1) (by omega) rfl rfl (fun _ => rfl) (by omega) (by omega) _ _ _ hP hD hS (lv_sub hl [2, 3, 4, 5, 1, 0] rfl)
            by_cases er : rem N
            · obtain rfl : fv = nI (62 - N 6) := hf.trans (tkV_r er)
              obtain ⟨er1, er2⟩ := id er
              by_cases e60 : N 6 ≤ 60
              · have hown := hown
                refine lv_iload hx hb dL_areForecastsSo_183 (lv_at hl 3 rfl) ?_
                refine lv_iconst (v := 1) hx hb dL_areForecastsSo_185 (by decide) ?_
                refine lv_icmp_le (tgt := 312) hx hb dL_areForecastsSo_186 (by decide) (fun c_39 => absurd ((t_le (nI_toInt (n := (62 - N 6)) (by omega)) (show (1 : Int32).toInt = 1 by decide)).mp c_39) (by omega)) (fun c_39 => ?_)
                refine lv_aload_n hx hb dL_areForecastsSo_189 rfl (lv_at hl 0 rfl) ?_
                refine lv_iload hx hb dL_areForecastsSo_190 (lv_at hl 3 rfl) ?_
                refine lv_iconst (v := 1) hx hb dL_areForecastsSo_192 (by decide) ?_
                refine lv_isub hx hb dL_areForecastsSo_193 ?_
                refine z_top (show (nI (62 - N 6)) - (1 : Int32) = nI ((62 - N 6) - 1) from pk_sub (a := (62 - N 6)) (b := 1) (by omega)) ?_
                have e1 : nI (paN N (62 - N 6 - 1) 6) - 1 = 60 := by
                  rw [paN_6, if_neg (by omega), show N 6 + (62 - N 6 - 1) = 61 by omega]
                  decide
                refine z_callM (val := 60) (va_runV (As := [.int (nI ((62 - N 6) - 1))]) (rest := []) ⟨hx, hb, hml, hown, hts⟩ (pC_pass' l G H.size ad h1 (by omega) (Ud_0 h1) (by omega) (y9 := ((62 - N 6) - 1)) (by omega) (by omega) (V := 60) e1) (cwV 1 hts gL_areForecastsSo_X5_pass rfl rfl rfl (by decide +kernel) ⟨(Nat.le_of_ble_eq_true rfl), (Nat.le_of_ble_eq_true rfl)⟩) (zV (ci := 5) (q0 := 0) hK hP hD rfl (wCl_0 G ad D1)) rfl rfl hl.1 rfl (lv_room (Nat.le_of_ble_eq_true rfl)) dL_areForecastsSo_194 ⟨(Nat.le_of_ble_eq_true rfl), (Nat.le_of_ble_eq_true rfl)⟩) hP hD hS hA (fun D_40 H locs k_40 hP hD hS => ?_)
                obtain ⟨P1, hP1⟩ : ∃ P1, P1 = paN N (62 - N 6 - 1) := ⟨_, rfl⟩
                obtain ⟨j1, u1⟩ := k_40
                rw [← hP1] at j1
                have p6 : P1 6 = 61 := by
                  rw [hP1, paN_6, if_neg (by omega)]
                  omega
                have rp1 : rem P1 := ⟨by omega, by omega⟩
                have p3 : P1 3 ≤ 15 := j1.2.1.1.2.2.2.2.1
                have t1 : (if rem P1 then nI (62 - P1 6) else -1) = 1 := by
                  rw [if_pos rp1, p6]
                  decide
                refine lv_istore (lv' := [(6, .int 60), (0, .ref ad.2.2.1), (1, .int (nI (N 2))), (3, .int r), (4, .int (nI (62 - N 6))), (5, .int 1)]) hx hb dL_areForecastsSo_197 hl (by decide) rfl (fun ls hl => ?_)
                refine lv_iload hx hb dL_areForecastsSo_199 (lv_at hl 5 rfl) ?_
                refine lv_if_eq (tgt := 230) hx hb dL_areForecastsSo_201 (by decide) (fun c_41 => absurd ((t_eq (show (1 : Int32).toInt = 1 by decide) (show (0 : Int32).toInt = 0 by decide)).mp c_41) (by omega)) (fun c_41 => ?_)
                refine lv_aload_n hx hb dL_areForecastsSo_204 rfl (lv_at hl 1 rfl) ?_
                refine z_callG (val := nI (P1 3)) (va_runV (As := []) (rest := []) ⟨hx, hb, hml, hown, hts⟩ (pC_remembered' l G H.size ad j1 (V := nI (P1 3)) (if_pos rp1)) (cwV 0 hts gL_areForecastsSo_X5_remembered rfl rfl rfl (by decide +kernel) ⟨(Nat.le_of_ble_eq_true rfl), (Nat.le_of_ble_eq_true rfl)⟩) (zV (ci := 5) (q0 := 0) hK hP hD rfl (wCl_0 G ad D_40)) rfl rfl hl.1 rfl (lv_room (Nat.le_of_ble_eq_true rfl)) dL_areForecastsSo_205 ⟨(Nat.le_of_ble_eq_true rfl), (Nat.le_of_ble_eq_true rfl)⟩) hP hD hS hA (fun H locs hP hD hS => ?_)
                refine lv_if_lt (tgt := 230) hx hb dL_areForecastsSo_208 (by decide) (fun c_43 => absurd ((t_lt (nI_toInt (n := (P1 3)) (by omega)) (show (0 : Int32).toInt = 0 by decide)).mp c_43) (by omega)) (fun c_43 => ?_)
                refine lv_aload_n hx hb dL_areForecastsSo_211 rfl (lv_at hl 1 rfl) ?_
                refine z_callG (val := 1) (va_runV (As := []) (rest := []) ⟨hx, hb, hml, hown, hts⟩ (pC_ticksToForget' l G H.size ad j1 (V := 1) t1) (cwV 0 hts gL_areForecastsSo_X5_ticksToForget rfl rfl rfl (by decide +kernel) ⟨(Nat.le_of_ble_eq_true rfl), (Nat.le_of_ble_eq_true rfl)⟩) (zV (ci := 5) (q0 := 0) hK hP hD rfl (wCl_0 G ad D_40)) rfl rfl hl.1 rfl (lv_room (Nat.le_of_ble_eq_true rfl)) dL_areForecastsSo_212 ⟨(Nat.le_of_ble_eq_true rfl), (Nat.le_of_ble_eq_true rfl)⟩) hP hD hS hA (fun H locs hP hD hS => ?_)
                refine lv_iconst (v := 1) hx hb dL_areForecastsSo_215 (by decide) ?_
                refine lv_icmp_ne (tgt := 230) hx hb dL_areForecastsSo_216 (by decide) (fun c_45 => absurd ((t_eq (show (1 : Int32).toInt = 1 by decide) (show (1 : Int32).toInt = 1 by decide)).mpr (by omega)) c_45) (fun c_45 => ?_)
                refine lv_iload hx hb dL_areForecastsSo_219 (lv_at hl 0 rfl) ?_
                refine lv_bipush (v := 60) hx hb dL_areForecastsSo_221 (by decide) ?_
                refine lv_icmp_ne (tgt := 230) hx hb dL_areForecastsSo_223 (by decide) (fun c_46 => absurd ((t_eq (show (60 : Int32).toInt = 60 by decide) (show (60 : Int32).toInt = 60 by decide)).mpr (by omega)) c_46) (fun c_46 => ?_)
                refine lv_iconst (v := 1) hx hb dL_areForecastsSo_226 (by decide) ?_
                refine lv_goto (tgt := 231) hx hb dL_areForecastsSo_227 (by decide) ?_
                refine lv_istore (lv' := [(5, .int 1), (6, .int 60), (0, .ref ad.2.2.1), (1, .int (nI (N 2))), (3, .int r), (4, .int (nI (62 - N 6)))]) hx hb dL_areForecastsSo_231 hl (by decide) rfl (fun ls hl => ?_)
                refine lv_aload_n hx hb dL_areForecastsSo_233 rfl (lv_at hl 2 rfl) ?_
                refine lv_iconst (v := 1) hx hb dL_areForecastsSo_234 (by decide) ?_
                have e2 : nI (paN P1 1 6) - 1 = 61 := by
                  rw [paN_6, if_neg (by omega), p6]
                  decide
                refine z_callM (val := 61) (va_runV (As := [.int 1]) (rest := []) ⟨hx, hb, hml, hown, hts⟩ (pC_pass' l G H.size ad j1 (by omega) u1 (by omega) (y9 := 1) (by omega) (by omega) (V := 61) e2) (cwV 1 hts gL_areForecastsSo_X5_pass rfl rfl rfl (by decide +kernel) ⟨(Nat.le_of_ble_eq_true rfl), (Nat.le_of_ble_eq_true rfl)⟩) (zV (ci := 5) (q0 := 0) hK hP hD rfl (wCl_0 G ad D_40)) rfl rfl hl.1 rfl (lv_room (Nat.le_of_ble_eq_true rfl)) dL_areForecastsSo_235 ⟨(Nat.le_of_ble_eq_true rfl), (Nat.le_of_ble_eq_true rfl)⟩) hP hD hS hA (fun D_47 H locs k_47 hP hD hS => ?_)
                obtain ⟨P2, hP2⟩ : ∃ P2, P2 = paN P1 1 := ⟨_, rfl⟩
                obtain ⟨j2, u2⟩ := k_47
                rw [← hP2] at j2
                have p62 : P2 6 = 62 := by
                  rw [hP2, paN_6, if_neg (by omega), p6]
                have rp2 : ¬ rem P2 := fun z => absurd z.2 (by omega)
                refine lv_istore (lv' := [(6, .int 61), (5, .int 1), (0, .ref ad.2.2.1), (1, .int (nI (N 2))), (3, .int r), (4, .int (nI (62 - N 6)))]) hx hb dL_areForecastsSo_238 hl (by decide) rfl (fun ls hl => ?_)
                refine lv_iload hx hb dL_areForecastsSo_240 (lv_at hl 1 rfl) ?_
                refine lv_if_eq (tgt := 271) hx hb dL_areForecastsSo_242 (by decide) (fun c_48 => absurd ((t_eq (show (1 : Int32).toInt = 1 by decide) (show (0 : Int32).toInt = 0 by decide)).mp c_48) (by omega)) (fun c_48 => ?_)
                refine lv_aload_n hx hb dL_areForecastsSo_245 rfl (lv_at hl 2 rfl) ?_
                refine z_callG (val := (-1)) (va_runV (As := []) (rest := []) ⟨hx, hb, hml, hown, hts⟩ (pC_remembered' l G H.size ad j2 (V := -1) (if_neg rp2)) (cwV 0 hts gL_areForecastsSo_X5_remembered rfl rfl rfl (by decide +kernel) ⟨(Nat.le_of_ble_eq_true rfl), (Nat.le_of_ble_eq_true rfl)⟩) (zV (ci := 5) (q0 := 0) hK hP hD rfl (wCl_0 G ad D_47)) rfl rfl hl.1 rfl (lv_room (Nat.le_of_ble_eq_true rfl)) dL_areForecastsSo_246 ⟨(Nat.le_of_ble_eq_true rfl), (Nat.le_of_ble_eq_true rfl)⟩) hP hD hS hA (fun H locs hP hD hS => ?_)
                refine lv_iconst (v := -1) hx hb dL_areForecastsSo_249 (by decide) ?_
                refine lv_icmp_ne (tgt := 271) hx hb dL_areForecastsSo_250 (by decide) (fun c_50 => absurd ((t_eq (show (-1 : Int32).toInt = -1 by decide) (show (-1 : Int32).toInt = -1 by decide)).mpr (by omega)) c_50) (fun c_50 => ?_)
                refine lv_aload_n hx hb dL_areForecastsSo_253 rfl (lv_at hl 2 rfl) ?_
                refine z_callG (val := 0) (va_runV (As := []) (rest := []) ⟨hx, hb, hml, hown, hts⟩ (pC_holds' l G H.size ad j2 (V := 0) (if_neg rp2)) (cwV 0 hts gL_areForecastsSo_X5_holds rfl rfl rfl (by decide +kernel) ⟨(Nat.le_of_ble_eq_true rfl), (Nat.le_of_ble_eq_true rfl)⟩) (zV (ci := 5) (q0 := 0) hK hP hD rfl (wCl_0 G ad D_47)) rfl rfl hl.1 rfl (lv_room (Nat.le_of_ble_eq_true rfl)) dL_areForecastsSo_254 ⟨(Nat.le_of_ble_eq_true rfl), (Nat.le_of_ble_eq_true rfl)⟩) hP hD hS hA (fun H locs hP hD hS => ?_)
                refine lv_if_ne (tgt := 271) hx hb dL_areForecastsSo_257 (by decide) (fun c_52 => absurd ((t_eq (show (0 : Int32).toInt = 0 by decide) (show (0 : Int32).toInt = 0 by decide)).mpr (by omega)) c_52) (fun c_52 => ?_)
                refine lv_iload hx hb dL_areForecastsSo_260 (lv_at hl 0 rfl) ?_
                refine lv_bipush (v := 61) hx hb dL_areForecastsSo_262 (by decide) ?_
                refine lv_icmp_ne (tgt := 271) hx hb dL_areForecastsSo_264 (by decide) (fun c_53 => absurd ((t_eq (show (61 : Int32).toInt = 61 by decide) (show (61 : Int32).toInt = 61 by decide)).mpr (by omega)) c_53) (fun c_53 => ?_)
                refine lv_iconst (v := 1) hx hb dL_areForecastsSo_267 (by decide) ?_
                refine lv_goto (tgt := 272) hx hb dL_areForecastsSo_268 (by decide) ?_
                refine lv_istore (lv' := [(5, .int 1), (6, .int 61), (0, .ref ad.2.2.1), (1, .int (nI (N 2))), (3, .int r), (4, .int (nI (62 - N 6)))]) hx hb dL_areForecastsSo_272 hl (by decide) rfl (fun ls hl => ?_)
                refine lv_aload_n hx hb dL_areForecastsSo_274 rfl (lv_at hl 2 rfl) ?_
                refine z_callA (va_runV (As := []) (rest := []) ⟨hx, hb, hml, hown, hts⟩ (pC_undo' l G H.size ad j2 u2) (cwV 0 hts gL_areForecastsSo_X5_undo rfl rfl rfl (by decide +kernel) ⟨(Nat.le_of_ble_eq_true rfl), (Nat.le_of_ble_eq_true rfl)⟩) (zV (ci := 5) (q0 := 0) hK hP hD rfl (wCl_0 G ad D_47)) rfl rfl hl.1 rfl (lv_room (Nat.le_of_ble_eq_true rfl)) dL_areForecastsSo_275 ⟨(Nat.le_of_ble_eq_true rfl), (Nat.le_of_ble_eq_true rfl)⟩) hP hD hS hA (fun v_54 D_54 H locs k_54 hP hD hS => ?_)
                obtain ⟨⟨jj54, jl54, rfl⟩, ⟨m54, M54, kJ54⟩, kU54⟩ := k_54
                refine lv_istore (lv' := [(7, .int (nI jj54)), (5, .int 1), (6, .int 61), (0, .ref ad.2.2.1), (1, .int (nI (N 2))), (3, .int r), (4, .int (nI (62 - N 6)))]) hx hb dL_areForecastsSo_278 hl (by decide) rfl (fun ls hl => ?_)
                refine lv_aload_n hx hb dL_areForecastsSo_280 rfl (lv_at hl 3 rfl) ?_
                refine z_callA (va_runV (As := []) (rest := []) ⟨hx, hb, hml, hown, hts⟩ (pC_undo' l G H.size ad kJ54 kU54) (cwV 0 hts gL_areForecastsSo_X5_undo rfl rfl rfl (by decide +kernel) ⟨(Nat.le_of_ble_eq_true rfl), (Nat.le_of_ble_eq_true rfl)⟩) (zV (ci := 5) (q0 := 0) hK hP hD rfl (wCl_0 G ad D_54)) rfl rfl hl.1 rfl (lv_room (Nat.le_of_ble_eq_true rfl)) dL_areForecastsSo_281 ⟨(Nat.le_of_ble_eq_true rfl), (Nat.le_of_ble_eq_true rfl)⟩) hP hD hS hA (fun v_55 D_55 H locs k_55 hP hD hS => ?_)
                obtain ⟨⟨jj55, jl55, rfl⟩, ⟨m55, M55, kJ55⟩, kU55⟩ := k_55
                have hJN := Ud_J kU55 kJ55
                refine lv_istore (lv' := [(7, .int (nI jj55)), (5, .int 1), (6, .int 61), (0, .ref ad.2.2.1), (1, .int (nI (N 2))), (3, .int r), (4, .int (nI (62 - N 6)))]) hx hb dL_areForecastsSo_284 hl (by decide) rfl (fun ls hl => ?_)
                refine lv_iload hx hb dL_areForecastsSo_286 (lv_at hl 1 rfl) ?_
                refine lv_if_eq (tgt := 309) hx hb dL_areForecastsSo_288 (by decide) (fun c_56 => absurd ((t_eq (show (1 : Int32).toInt = 1 by decide) (show (0 : Int32).toInt = 0 by decide)).mp c_56) (by omega)) (fun c_56 => ?_)
                refine lv_iload hx hb dL_areForecastsSo_291 (lv_at hl 0 rfl) ?_
                refine lv_if_lt (tgt := 309) hx hb dL_areForecastsSo_293 (by decide) (fun c_57 => absurd ((t_lt (nI_toInt (n := jj55) (by omega)) (show (0 : Int32).toInt = 0 by decide)).mp c_57) (by omega)) (fun c_57 => ?_)
                refine lv_aload_n hx hb dL_areForecastsSo_296 rfl (lv_at hl 3 rfl) ?_
                refine z_callG (val := nI (62 - N 6)) (va_runV (As := []) (rest := []) ⟨hx, hb, hml, hown, hts⟩ (pC_ticksToForget' l G H.size ad hJN (V := nI (62 - N 6)) (if_pos er)) (cwV 0 hts gL_areForecastsSo_X5_ticksToForget rfl rfl rfl (by decide +kernel) ⟨(Nat.le_of_ble_eq_true rfl), (Nat.le_of_ble_eq_true rfl)⟩) (zV (ci := 5) (q0 := 0) hK hP hD rfl (wCl_0 G ad D_55)) rfl rfl hl.1 rfl (lv_room (Nat.le_of_ble_eq_true rfl)) dL_areForecastsSo_297 ⟨(Nat.le_of_ble_eq_true rfl), (Nat.le_of_ble_eq_true rfl)⟩) hP hD hS hA (fun H locs hP hD hS => ?_)
                refine lv_iload hx hb dL_areForecastsSo_300 (lv_at hl 6 rfl) ?_
                refine lv_icmp_ne (tgt := 309) hx hb dL_areForecastsSo_302 (by decide) (fun c_59 => absurd ((t_eq (nI_toInt (n := (62 - N 6)) (by omega)) (nI_toInt (n := (62 - N 6)) (by omega))).mpr (by omega)) c_59) (fun c_59 => ?_)
                refine lv_iconst (v := 1) hx hb dL_areForecastsSo_305 (by decide) ?_
                refine lv_goto (tgt := 310) hx hb dL_areForecastsSo_306 (by decide) ?_
                refine lv_istore (lv' := [(5, .int 1), (7, .int (nI jj55)), (6, .int 61), (0, .ref ad.2.2.1), (1, .int (nI (N 2))), (3, .int r), (4, .int (nI (62 - N 6)))]) hx hb dL_areForecastsSo_310 hl (by decide) rfl (fun ls hl => ?_)
                exact M312 D_55 H _ _ hJN hP hD hS (lv_sub hl [3, 4, 5, 0] rfl)
              · have hown := hown
                refine lv_iload hx hb dL_areForecastsSo_183 (lv_at hl 3 rfl) ?_
                refine lv_iconst (v := 1) hx hb dL_areForecastsSo_185 (by decide) ?_
                refine lv_icmp_le (tgt := 312) hx hb dL_areForecastsSo_186 (by decide) (fun c_60 => ?_) (fun c_60 => absurd ((t_le (nI_toInt (n := (62 - N 6)) (by omega)) (show (1 : Int32).toInt = 1 by decide)).mpr (by omega)) c_60)
                exact M312 D1 H _ _ h1 hP hD hS (lv_sub hl [0, 1, 2, 4] rfl)
            · obtain rfl : fv = -1 := hf.trans (tkV_n er)
              refine lv_iload hx hb dL_areForecastsSo_183 (lv_at hl 3 rfl) ?_
              refine lv_iconst (v := 1) hx hb dL_areForecastsSo_185 (by decide) ?_
              refine lv_icmp_le (tgt := 312) hx hb dL_areForecastsSo_186 (by decide) (fun c_61 => ?_) (fun c_61 => absurd ((t_le (show (-1 : Int32).toInt = -1 by decide) (show (1 : Int32).toInt = 1 by decide)).mpr (by omega)) c_61)
              exact M312 D1 H _ _ h1 hP hD hS (lv_sub hl [0, 1, 2, 4] rfl)
          have ho := fr_own (c := 0) (t := 0) (st := 10) h1.2.1 (Nat.le_of_ble_eq_true rfl) (Nat.le_of_ble_eq_true rfl)
          rcases id hrt with ⟨k0, k0l, rfl, nb, al⟩ | ⟨rfl, al⟩
          · by_cases kz : k0 = 0
            · have nb9 : ¬ bad N 10 := by
                have z : ¬ 60 ≤ N 0 * N 1 := by
                  rw [kz] at nb
                  exact nb
                unfold bad
                omega
              rcases ho.2 nb9 with ev | ev
              · have hown := hown
                refine lv_iload hx hb dL_areForecastsSo_131 (lv_at hl 5 rfl) ?_
                refine lv_if_eq (tgt := 180) hx hb dL_areForecastsSo_133 (by decide) (fun c_62 => absurd ((t_eq (show (1 : Int32).toInt = 1 by decide) (show (0 : Int32).toInt = 0 by decide)).mp c_62) (by omega)) (fun c_62 => ?_)
                refine lv_iload_n hx hb dL_areForecastsSo_136 rfl (lv_at hl 3 rfl) ?_
                refine lv_if_ne (tgt := 144) hx hb dL_areForecastsSo_137 (by decide) (fun c_63 => absurd ((t_eq (nI_toInt (n := k0) (by omega)) (show (0 : Int32).toInt = 0 by decide)).mpr (by omega)) c_63) (fun c_63 => ?_)
                refine lv_iconst (v := 1) hx hb dL_areForecastsSo_140 (by decide) ?_
                refine lv_goto (tgt := 145) hx hb dL_areForecastsSo_141 (by decide) ?_
                refine lv_aload_n hx hb dL_areForecastsSo_145 rfl (lv_at hl 0 rfl) ?_
                refine lv_iload_n hx hb dL_areForecastsSo_146 rfl (lv_at hl 1 rfl) ?_
                refine lv_iconst (v := 0) hx hb dL_areForecastsSo_147 (by decide) ?_
                refine lv_iconst (v := 0) hx hb dL_areForecastsSo_148 (by decide) ?_
                refine lv_bipush (v := 10) hx hb dL_areForecastsSo_149 (by decide) ?_
                refine z_callM (val := 0) (va_runV (As := [.int (nI (N 2)), .int 0, .int 0, .int 10]) (rest := [.int 1]) ⟨hx, hb, hml, hown, hts⟩ (pC_ifFrame' l G H.size ad h1 (Ud_0 h1) (a9 := N 2) (c9 := 0) (g9 := 0) (st := 10) (by omega) (Nat.le_of_ble_eq_true rfl) (Nat.le_of_ble_eq_true rfl) (by omega) (by omega) (V := 0) ev) (cwV 4 hts gL_areForecastsSo_X5_ifFrame rfl rfl rfl (by decide +kernel) ⟨(Nat.le_of_ble_eq_true rfl), (Nat.le_of_ble_eq_true rfl)⟩) (zV (ci := 5) (q0 := 0) hK hP hD rfl (wCl_0 G ad D1)) rfl rfl hl.1 rfl (lv_room (Nat.le_of_ble_eq_true rfl)) dL_areForecastsSo_151 ⟨(Nat.le_of_ble_eq_true rfl), (Nat.le_of_ble_eq_true rfl)⟩) hP hD hS hA (fun D_64 H locs k_64 hP hD hS => ?_)
                refine lv_if_gt (tgt := 161) hx hb dL_areForecastsSo_154 (by decide) (fun c_65 => absurd ((t_lt (show (0 : Int32).toInt = 0 by decide) (show (0 : Int32).toInt = 0 by decide)).mp c_65) (by omega)) (fun c_65 => ?_)
                refine lv_iconst (v := 1) hx hb dL_areForecastsSo_157 (by decide) ?_
                refine lv_goto (tgt := 162) hx hb dL_areForecastsSo_158 (by decide) ?_
                refine lv_icmp_ne (tgt := 180) hx hb dL_areForecastsSo_162 (by decide) (fun c_66 => absurd ((t_eq (show (1 : Int32).toInt = 1 by decide) (show (1 : Int32).toInt = 1 by decide)).mpr (by omega)) c_66) (fun c_66 => ?_)
                refine lv_iload_n hx hb dL_areForecastsSo_165 rfl (lv_at hl 3 rfl) ?_
                refine lv_iconst (v := -1) hx hb dL_areForecastsSo_166 (by decide) ?_
                refine lv_icmp_lt (tgt := 180) hx hb dL_areForecastsSo_167 (by decide) (fun c_67 => absurd ((t_lt (nI_toInt (n := k0) (by omega)) (show (-1 : Int32).toInt = -1 by decide)).mp c_67) (by omega)) (fun c_67 => ?_)
                refine lv_iload_n hx hb dL_areForecastsSo_170 rfl (lv_at hl 3 rfl) ?_
                refine lv_bipush (v := 20) hx hb dL_areForecastsSo_171 (by decide) ?_
                refine lv_icmp_gt (tgt := 180) hx hb dL_areForecastsSo_173 (by decide) (fun c_68 => absurd ((t_lt (show (20 : Int32).toInt = 20 by decide) (nI_toInt (n := k0) (by omega))).mp c_68) (by omega)) (fun c_68 => ?_)
                refine lv_iconst (v := 1) hx hb dL_areForecastsSo_176 (by decide) ?_
                refine lv_goto (tgt := 181) hx hb dL_areForecastsSo_177 (by decide) ?_
                refine lv_istore (lv' := [(5, .int 1), (0, .ref ad.2.2.1), (1, .int (nI (N 2))), (2, .int (lsV N)), (3, .int (nI k0)), (4, .int fv), (6, .int (nI k))]) hx hb dL_areForecastsSo_181 hl (by decide) rfl (fun ls hl => ?_)
                exact M183 D_64 H _ _ k_64.1 hP hD hS (lv_sub hl [1, 2, 4, 5, 0] rfl)
              · have hown := hown
                refine lv_iload hx hb dL_areForecastsSo_131 (lv_at hl 5 rfl) ?_
                refine lv_if_eq (tgt := 180) hx hb dL_areForecastsSo_133 (by decide) (fun c_69 => absurd ((t_eq (show (1 : Int32).toInt = 1 by decide) (show (0 : Int32).toInt = 0 by decide)).mp c_69) (by omega)) (fun c_69 => ?_)
                refine lv_iload_n hx hb dL_areForecastsSo_136 rfl (lv_at hl 3 rfl) ?_
                refine lv_if_ne (tgt := 144) hx hb dL_areForecastsSo_137 (by decide) (fun c_70 => absurd ((t_eq (nI_toInt (n := k0) (by omega)) (show (0 : Int32).toInt = 0 by decide)).mpr (by omega)) c_70) (fun c_70 => ?_)
                refine lv_iconst (v := 1) hx hb dL_areForecastsSo_140 (by decide) ?_
                refine lv_goto (tgt := 145) hx hb dL_areForecastsSo_141 (by decide) ?_
                refine lv_aload_n hx hb dL_areForecastsSo_145 rfl (lv_at hl 0 rfl) ?_
                refine lv_iload_n hx hb dL_areForecastsSo_146 rfl (lv_at hl 1 rfl) ?_
                refine lv_iconst (v := 0) hx hb dL_areForecastsSo_147 (by decide) ?_
                refine lv_iconst (v := 0) hx hb dL_areForecastsSo_148 (by decide) ?_
                refine lv_bipush (v := 10) hx hb dL_areForecastsSo_149 (by decide) ?_
                refine z_callM (val := (-1)) (va_runV (As := [.int (nI (N 2)), .int 0, .int 0, .int 10]) (rest := [.int 1]) ⟨hx, hb, hml, hown, hts⟩ (pC_ifFrame' l G H.size ad h1 (Ud_0 h1) (a9 := N 2) (c9 := 0) (g9 := 0) (st := 10) (by omega) (Nat.le_of_ble_eq_true rfl) (Nat.le_of_ble_eq_true rfl) (by omega) (by omega) (V := (-1)) ev) (cwV 4 hts gL_areForecastsSo_X5_ifFrame rfl rfl rfl (by decide +kernel) ⟨(Nat.le_of_ble_eq_true rfl), (Nat.le_of_ble_eq_true rfl)⟩) (zV (ci := 5) (q0 := 0) hK hP hD rfl (wCl_0 G ad D1)) rfl rfl hl.1 rfl (lv_room (Nat.le_of_ble_eq_true rfl)) dL_areForecastsSo_151 ⟨(Nat.le_of_ble_eq_true rfl), (Nat.le_of_ble_eq_true rfl)⟩) hP hD hS hA (fun D_71 H locs k_71 hP hD hS => ?_)
                refine lv_if_gt (tgt := 161) hx hb dL_areForecastsSo_154 (by decide) (fun c_72 => absurd ((t_lt (show (0 : Int32).toInt = 0 by decide) (show (-1 : Int32).toInt = -1 by decide)).mp c_72) (by omega)) (fun c_72 => ?_)
                refine lv_iconst (v := 1) hx hb dL_areForecastsSo_157 (by decide) ?_
                refine lv_goto (tgt := 162) hx hb dL_areForecastsSo_158 (by decide) ?_
                refine lv_icmp_ne (tgt := 180) hx hb dL_areForecastsSo_162 (by decide) (fun c_73 => absurd ((t_eq (show (1 : Int32).toInt = 1 by decide) (show (1 : Int32).toInt = 1 by decide)).mpr (by omega)) c_73) (fun c_73 => ?_)
                refine lv_iload_n hx hb dL_areForecastsSo_165 rfl (lv_at hl 3 rfl) ?_
                refine lv_iconst (v := -1) hx hb dL_areForecastsSo_166 (by decide) ?_
                refine lv_icmp_lt (tgt := 180) hx hb dL_areForecastsSo_167 (by decide) (fun c_74 => absurd ((t_lt (nI_toInt (n := k0) (by omega)) (show (-1 : Int32).toInt = -1 by decide)).mp c_74) (by omega)) (fun c_74 => ?_)
                refine lv_iload_n hx hb dL_areForecastsSo_170 rfl (lv_at hl 3 rfl) ?_
                refine lv_bipush (v := 20) hx hb dL_areForecastsSo_171 (by decide) ?_
                refine lv_icmp_gt (tgt := 180) hx hb dL_areForecastsSo_173 (by decide) (fun c_75 => absurd ((t_lt (show (20 : Int32).toInt = 20 by decide) (nI_toInt (n := k0) (by omega))).mp c_75) (by omega)) (fun c_75 => ?_)
                refine lv_iconst (v := 1) hx hb dL_areForecastsSo_176 (by decide) ?_
                refine lv_goto (tgt := 181) hx hb dL_areForecastsSo_177 (by decide) ?_
                refine lv_istore (lv' := [(5, .int 1), (0, .ref ad.2.2.1), (1, .int (nI (N 2))), (2, .int (lsV N)), (3, .int (nI k0)), (4, .int fv), (6, .int (nI k))]) hx hb dL_areForecastsSo_181 hl (by decide) rfl (fun ls hl => ?_)
                exact M183 D_71 H _ _ k_71.1 hP hD hS (lv_sub hl [1, 2, 4, 5, 0] rfl)
            · obtain ⟨q, q1, q2, ev⟩ := ho.1 (Or.inr (al 0 (by omega)))
              refine lv_iload hx hb dL_areForecastsSo_131 (lv_at hl 5 rfl) ?_
              refine lv_if_eq (tgt := 180) hx hb dL_areForecastsSo_133 (by decide) (fun c_76 => absurd ((t_eq (show (1 : Int32).toInt = 1 by decide) (show (0 : Int32).toInt = 0 by decide)).mp c_76) (by omega)) (fun c_76 => ?_)
              refine lv_iload_n hx hb dL_areForecastsSo_136 rfl (lv_at hl 3 rfl) ?_
              refine lv_if_ne (tgt := 144) hx hb dL_areForecastsSo_137 (by decide) (fun c_77 => ?_) (fun c_77 => absurd ((t_eq (nI_toInt (n := k0) (by omega)) (show (0 : Int32).toInt = 0 by decide)).mp c_77) (by omega))
              refine lv_iconst (v := 0) hx hb dL_areForecastsSo_144 (by decide) ?_
              refine lv_aload_n hx hb dL_areForecastsSo_145 rfl (lv_at hl 0 rfl) ?_
              refine lv_iload_n hx hb dL_areForecastsSo_146 rfl (lv_at hl 1 rfl) ?_
              refine lv_iconst (v := 0) hx hb dL_areForecastsSo_147 (by decide) ?_
              refine lv_iconst (v := 0) hx hb dL_areForecastsSo_148 (by decide) ?_
              refine lv_bipush (v := 10) hx hb dL_areForecastsSo_149 (by decide) ?_
              refine z_callM (val := nI q) (va_runV (As := [.int (nI (N 2)), .int 0, .int 0, .int 10]) (rest := [.int 0]) ⟨hx, hb, hml, hown, hts⟩ (pC_ifFrame' l G H.size ad h1 (Ud_0 h1) (a9 := N 2) (c9 := 0) (g9 := 0) (st := 10) (by omega) (Nat.le_of_ble_eq_true rfl) (Nat.le_of_ble_eq_true rfl) (by omega) (by omega) (V := nI q) ev) (cwV 4 hts gL_areForecastsSo_X5_ifFrame rfl rfl rfl (by decide +kernel) ⟨(Nat.le_of_ble_eq_true rfl), (Nat.le_of_ble_eq_true rfl)⟩) (zV (ci := 5) (q0 := 0) hK hP hD rfl (wCl_0 G ad D1)) rfl rfl hl.1 rfl (lv_room (Nat.le_of_ble_eq_true rfl)) dL_areForecastsSo_151 ⟨(Nat.le_of_ble_eq_true rfl), (Nat.le_of_ble_eq_true rfl)⟩) hP hD hS hA (fun D_78 H locs k_78 hP hD hS => ?_)
              refine lv_if_gt (tgt := 161) hx hb dL_areForecastsSo_154 (by decide) (fun c_79 => ?_) (fun c_79 => absurd ((t_lt (show (0 : Int32).toInt = 0 by decide) (nI_toInt (n := q) (by omega))).mpr (by omega)) c_79)
              refine lv_iconst (v := 0) hx hb dL_areForecastsSo_161 (by decide) ?_
              refine lv_icmp_ne (tgt := 180) hx hb dL_areForecastsSo_162 (by decide) (fun c_80 => absurd ((t_eq (show (0 : Int32).toInt = 0 by decide) (show (0 : Int32).toInt = 0 by decide)).mpr (by omega)) c_80) (fun c_80 => ?_)
              refine lv_iload_n hx hb dL_areForecastsSo_165 rfl (lv_at hl 3 rfl) ?_
              refine lv_iconst (v := -1) hx hb dL_areForecastsSo_166 (by decide) ?_
              refine lv_icmp_lt (tgt := 180) hx hb dL_areForecastsSo_167 (by decide) (fun c_81 => absurd ((t_lt (nI_toInt (n := k0) (by omega)) (show (-1 : Int32).toInt = -1 by decide)).mp c_81) (by omega)) (fun c_81 => ?_)
              refine lv_iload_n hx hb dL_areForecastsSo_170 rfl (lv_at hl 3 rfl) ?_
              refine lv_bipush (v := 20) hx hb dL_areForecastsSo_171 (by decide) ?_
              refine lv_icmp_gt (tgt := 180) hx hb dL_areForecastsSo_173 (by decide) (fun c_82 => absurd ((t_lt (show (20 : Int32).toInt = 20 by decide) (nI_toInt (n := k0) (by omega))).mp c_82) (by omega)) (fun c_82 => ?_)
              refine lv_iconst (v := 1) hx hb dL_areForecastsSo_176 (by decide) ?_
              refine lv_goto (tgt := 181) hx hb dL_areForecastsSo_177 (by decide) ?_
              refine lv_istore (lv' := [(5, .int 1), (0, .ref ad.2.2.1), (1, .int (nI (N 2))), (2, .int (lsV N)), (3, .int (nI k0)), (4, .int fv), (6, .int (nI k))]) hx hb dL_areForecastsSo_181 hl (by decide) rfl (fun ls hl => ?_)
              exact M183 D_78 H _ _ k_78.1 hP hD hS (lv_sub hl [1, 2, 4, 5, 0] rfl)
          · obtain ⟨q, q1, q2, ev⟩ := ho.1 (Or.inr (al 0 (by omega)))
            refine lv_iload hx hb dL_areForecastsSo_131 (lv_at hl 5 rfl) ?_
            refine lv_if_eq (tgt := 180) hx hb dL_areForecastsSo_133 (by decide) (fun c_83 => absurd ((t_eq (show (1 : Int32).toInt = 1 by decide) (show (0 : Int32).toInt = 0 by decide)).mp c_83) (by omega)) (fun c_83 => ?_)
            refine lv_iload_n hx hb dL_areForecastsSo_136 rfl (lv_at hl 3 rfl) ?_
            refine lv_if_ne (tgt := 144) hx hb dL_areForecastsSo_137 (by decide) (fun c_84 => ?_) (fun c_84 => absurd ((t_eq (show (-1 : Int32).toInt = -1 by decide) (show (0 : Int32).toInt = 0 by decide)).mp c_84) (by omega))
            refine lv_iconst (v := 0) hx hb dL_areForecastsSo_144 (by decide) ?_
            refine lv_aload_n hx hb dL_areForecastsSo_145 rfl (lv_at hl 0 rfl) ?_
            refine lv_iload_n hx hb dL_areForecastsSo_146 rfl (lv_at hl 1 rfl) ?_
            refine lv_iconst (v := 0) hx hb dL_areForecastsSo_147 (by decide) ?_
            refine lv_iconst (v := 0) hx hb dL_areForecastsSo_148 (by decide) ?_
            refine lv_bipush (v := 10) hx hb dL_areForecastsSo_149 (by decide) ?_
            refine z_callM (val := nI q) (va_runV (As := [.int (nI (N 2)), .int 0, .int 0, .int 10]) (rest := [.int 0]) ⟨hx, hb, hml, hown, hts⟩ (pC_ifFrame' l G H.size ad h1 (Ud_0 h1) (a9 := N 2) (c9 := 0) (g9 := 0) (st := 10) (by omega) (Nat.le_of_ble_eq_true rfl) (Nat.le_of_ble_eq_true rfl) (by omega) (by omega) (V := nI q) ev) (cwV 4 hts gL_areForecastsSo_X5_ifFrame rfl rfl rfl (by decide +kernel) ⟨(Nat.le_of_ble_eq_true rfl), (Nat.le_of_ble_eq_true rfl)⟩) (zV (ci := 5) (q0 := 0) hK hP hD rfl (wCl_0 G ad D1)) rfl rfl hl.1 rfl (lv_room (Nat.le_of_ble_eq_true rfl)) dL_areForecastsSo_151 ⟨(Nat.le_of_ble_eq_true rfl), (Nat.le_of_ble_eq_true rfl)⟩) hP hD hS hA (fun D_85 H locs k_85 hP hD hS => ?_)
            refine lv_if_gt (tgt := 161) hx hb dL_areForecastsSo_154 (by decide) (fun c_86 => ?_) (fun c_86 => absurd ((t_lt (show (0 : Int32).toInt = 0 by decide) (nI_toInt (n := q) (by omega))).mpr (by omega)) c_86)
            refine lv_iconst (v := 0) hx hb dL_areForecastsSo_161 (by decide) ?_
            refine lv_icmp_ne (tgt := 180) hx hb dL_areForecastsSo_162 (by decide) (fun c_87 => absurd ((t_eq (show (0 : Int32).toInt = 0 by decide) (show (0 : Int32).toInt = 0 by decide)).mpr (by omega)) c_87) (fun c_87 => ?_)
            refine lv_iload_n hx hb dL_areForecastsSo_165 rfl (lv_at hl 3 rfl) ?_
            refine lv_iconst (v := -1) hx hb dL_areForecastsSo_166 (by decide) ?_
            refine lv_icmp_lt (tgt := 180) hx hb dL_areForecastsSo_167 (by decide) (fun c_88 => absurd ((t_lt (show (-1 : Int32).toInt = -1 by decide) (show (-1 : Int32).toInt = -1 by decide)).mp c_88) (by omega)) (fun c_88 => ?_)
            refine lv_iload_n hx hb dL_areForecastsSo_170 rfl (lv_at hl 3 rfl) ?_
            refine lv_bipush (v := 20) hx hb dL_areForecastsSo_171 (by decide) ?_
            refine lv_icmp_gt (tgt := 180) hx hb dL_areForecastsSo_173 (by decide) (fun c_89 => absurd ((t_lt (show (20 : Int32).toInt = 20 by decide) (show (-1 : Int32).toInt = -1 by decide)).mp c_89) (by omega)) (fun c_89 => ?_)
            refine lv_iconst (v := 1) hx hb dL_areForecastsSo_176 (by decide) ?_
            refine lv_goto (tgt := 181) hx hb dL_areForecastsSo_177 (by decide) ?_
            refine lv_istore (lv' := [(5, .int 1), (0, .ref ad.2.2.1), (1, .int (nI (N 2))), (2, .int (lsV N)), (3, .int (-1)), (4, .int fv), (6, .int (nI k))]) hx hb dL_areForecastsSo_181 hl (by decide) rfl (fun ls hl => ?_)
            exact M183 D_85 H _ _ k_85.1 hP hD hS (lv_sub hl [1, 2, 4, 5, 0] rfl)
        · have hk10 : k ≤ 10 := Nat.not_lt.mp (fun z => c_1 ((z_lt (a := 10) rfl rfl (by omega) (by omega)).mpr z))
          have ho := fr_own (c := 0) (t := 0) (st := k) h1.2.1 (Nat.le_of_ble_eq_true rfl) (Nat.le_of_ble_eq_true rfl)
          rcases (show (bad N k ∧ 60 ≤ N 0 * N 1) ∨ (bad N k ∧ ¬ 60 ≤ N 0 * N 1) ∨ ¬ bad N k by by_cases z : bad N k <;> by_cases z2 : 60 ≤ N 0 * N 1 <;> simp [z, z2]) with ⟨hb9, h60⟩ | ⟨hb9, h60⟩ | hb9
          · obtain ⟨q, q1, q2, ev⟩ := ho.1 hb9
            have eL : lsV N = -1 := if_pos h60
            refine lv_aload_n hx hb dL_areForecastsSo_74 rfl (lv_at hl 0 rfl) ?_
            refine lv_iload_n hx hb dL_areForecastsSo_75 rfl (lv_at hl 1 rfl) ?_
            refine lv_iconst (v := 0) hx hb dL_areForecastsSo_76 (by decide) ?_
            refine lv_iconst (v := 0) hx hb dL_areForecastsSo_77 (by decide) ?_
            refine lv_iload hx hb dL_areForecastsSo_78 (lv_at hl 6 rfl) ?_
            refine z_callM (val := nI q) (va_runV (As := [.int (nI (N 2)), .int 0, .int 0, .int (nI k)]) (rest := []) ⟨hx, hb, hml, hown, hts⟩ (pC_ifFrame' l G H.size ad h1 (Ud_0 h1) (a9 := N 2) (c9 := 0) (g9 := 0) (st := k) (by omega) (Nat.le_of_ble_eq_true rfl) (Nat.le_of_ble_eq_true rfl) (by omega) (by omega) (V := nI q) ev) (cwV 4 hts gL_areForecastsSo_X5_ifFrame rfl rfl rfl (by decide +kernel) ⟨(Nat.le_of_ble_eq_true rfl), (Nat.le_of_ble_eq_true rfl)⟩) (zV (ci := 5) (q0 := 0) hK hP hD rfl (wCl_0 G ad D1)) rfl rfl hl.1 rfl (lv_room (Nat.le_of_ble_eq_true rfl)) dL_areForecastsSo_80 ⟨(Nat.le_of_ble_eq_true rfl), (Nat.le_of_ble_eq_true rfl)⟩) hP hD hS hA (fun D_90 H locs k_90 hP hD hS => ?_)
            refine lv_if_gt (tgt := 90) hx hb dL_areForecastsSo_83 (by decide) (fun c_91 => ?_) (fun c_91 => absurd ((t_lt (show (0 : Int32).toInt = 0 by decide) (nI_toInt (n := q) (by omega))).mpr (by omega)) c_91)
            refine lv_iconst (v := 0) hx hb dL_areForecastsSo_90 (by decide) ?_
            refine lv_istore (lv' := [(7, .int 0), (0, .ref ad.2.2.1), (1, .int (nI (N 2))), (2, .int (lsV N)), (3, .int r), (4, .int fv), (5, .int 1), (6, .int (nI k))]) hx hb dL_areForecastsSo_91 hl (by decide) rfl (fun ls hl => ?_)
            refine lv_iload hx hb dL_areForecastsSo_93 (lv_at hl 6 rfl) ?_
            refine lv_if_eq (tgt := 122) hx hb dL_areForecastsSo_95 (by decide) (fun c_92 => absurd ((t_eq (show (1 : Int32).toInt = 1 by decide) (show (0 : Int32).toInt = 0 by decide)).mp c_92) (by omega)) (fun c_92 => ?_)
            refine lv_iload hx hb dL_areForecastsSo_98 (lv_at hl 0 rfl) ?_
            refine lv_iload_n hx hb dL_areForecastsSo_100 rfl (lv_at hl 3 rfl) ?_
            refine z_top eL ?_
            refine lv_if_le (tgt := 114) hx hb dL_areForecastsSo_101 (by decide) (fun c_93 => ?_) (fun c_93 => absurd ((t_le (show (-1 : Int32).toInt = -1 by decide) (show (0 : Int32).toInt = 0 by decide)).mpr (by omega)) c_93)
            refine lv_iconst (v := 0) hx hb dL_areForecastsSo_114 (by decide) ?_
            refine lv_icmp_ne (tgt := 122) hx hb dL_areForecastsSo_115 (by decide) (fun c_94 => absurd ((t_eq (show (0 : Int32).toInt = 0 by decide) (show (0 : Int32).toInt = 0 by decide)).mpr (by omega)) c_94) (fun c_94 => ?_)
            refine lv_iconst (v := 1) hx hb dL_areForecastsSo_118 (by decide) ?_
            refine lv_goto (tgt := 123) hx hb dL_areForecastsSo_119 (by decide) ?_
            refine lv_istore (lv' := [(5, .int 1), (7, .int 0), (0, .ref ad.2.2.1), (1, .int (nI (N 2))), (2, .int (lsV N)), (3, .int r), (4, .int fv), (6, .int (nI k))]) hx hb dL_areForecastsSo_123 hl (by decide) rfl (fun ls hl => ?_)
            refine lv_iinc (v := nI (k + 1)) (lv' := [(6, .int (nI (k + 1))), (5, .int 1), (7, .int 0), (0, .ref ad.2.2.1), (1, .int (nI (N 2))), (2, .int (lsV N)), (3, .int r), (4, .int fv)]) hx hb dL_areForecastsSo_125 hl (k := 7) rfl (nI_1 k) (by decide) rfl (fun ls hl => ?_)
            refine lv_goto (tgt := 67) hx hb dL_areForecastsSo_128 (by decide) ?_
            exact ih (k + 1) D_90 (by omega) k_90.1 (by omega) (by omega) _ _ _ hP hD hS (lv_sub hl [3, 4, 5, 6, 7, 1, 0] rfl)
          · obtain ⟨q, q1, q2, ev⟩ := ho.1 hb9
            have eL : lsV N = nI (11 - N 1) := if_neg h60
            have hlt : k + N 1 < 11 := hb9.resolve_right h60
            refine lv_aload_n hx hb dL_areForecastsSo_74 rfl (lv_at hl 0 rfl) ?_
            refine lv_iload_n hx hb dL_areForecastsSo_75 rfl (lv_at hl 1 rfl) ?_
            refine lv_iconst (v := 0) hx hb dL_areForecastsSo_76 (by decide) ?_
            refine lv_iconst (v := 0) hx hb dL_areForecastsSo_77 (by decide) ?_
            refine lv_iload hx hb dL_areForecastsSo_78 (lv_at hl 6 rfl) ?_
            refine z_callM (val := nI q) (va_runV (As := [.int (nI (N 2)), .int 0, .int 0, .int (nI k)]) (rest := []) ⟨hx, hb, hml, hown, hts⟩ (pC_ifFrame' l G H.size ad h1 (Ud_0 h1) (a9 := N 2) (c9 := 0) (g9 := 0) (st := k) (by omega) (Nat.le_of_ble_eq_true rfl) (Nat.le_of_ble_eq_true rfl) (by omega) (by omega) (V := nI q) ev) (cwV 4 hts gL_areForecastsSo_X5_ifFrame rfl rfl rfl (by decide +kernel) ⟨(Nat.le_of_ble_eq_true rfl), (Nat.le_of_ble_eq_true rfl)⟩) (zV (ci := 5) (q0 := 0) hK hP hD rfl (wCl_0 G ad D1)) rfl rfl hl.1 rfl (lv_room (Nat.le_of_ble_eq_true rfl)) dL_areForecastsSo_80 ⟨(Nat.le_of_ble_eq_true rfl), (Nat.le_of_ble_eq_true rfl)⟩) hP hD hS hA (fun D_95 H locs k_95 hP hD hS => ?_)
            refine lv_if_gt (tgt := 90) hx hb dL_areForecastsSo_83 (by decide) (fun c_96 => ?_) (fun c_96 => absurd ((t_lt (show (0 : Int32).toInt = 0 by decide) (nI_toInt (n := q) (by omega))).mpr (by omega)) c_96)
            refine lv_iconst (v := 0) hx hb dL_areForecastsSo_90 (by decide) ?_
            refine lv_istore (lv' := [(7, .int 0), (0, .ref ad.2.2.1), (1, .int (nI (N 2))), (2, .int (lsV N)), (3, .int r), (4, .int fv), (5, .int 1), (6, .int (nI k))]) hx hb dL_areForecastsSo_91 hl (by decide) rfl (fun ls hl => ?_)
            refine lv_iload hx hb dL_areForecastsSo_93 (lv_at hl 6 rfl) ?_
            refine lv_if_eq (tgt := 122) hx hb dL_areForecastsSo_95 (by decide) (fun c_97 => absurd ((t_eq (show (1 : Int32).toInt = 1 by decide) (show (0 : Int32).toInt = 0 by decide)).mp c_97) (by omega)) (fun c_97 => ?_)
            refine lv_iload hx hb dL_areForecastsSo_98 (lv_at hl 0 rfl) ?_
            refine lv_iload_n hx hb dL_areForecastsSo_100 rfl (lv_at hl 3 rfl) ?_
            refine z_top eL ?_
            refine lv_if_le (tgt := 114) hx hb dL_areForecastsSo_101 (by decide) (fun c_98 => absurd ((t_le (nI_toInt (n := (11 - N 1)) (by omega)) (show (0 : Int32).toInt = 0 by decide)).mp c_98) (by omega)) (fun c_98 => ?_)
            refine lv_iload hx hb dL_areForecastsSo_104 (lv_at hl 7 rfl) ?_
            refine lv_iload_n hx hb dL_areForecastsSo_106 rfl (lv_at hl 3 rfl) ?_
            refine z_top eL ?_
            refine lv_icmp_lt (tgt := 114) hx hb dL_areForecastsSo_107 (by decide) (fun c_99 => ?_) (fun c_99 => absurd ((t_lt (nI_toInt (n := k) (by omega)) (nI_toInt (n := (11 - N 1)) (by omega))).mpr (by omega)) c_99)
            refine lv_iconst (v := 0) hx hb dL_areForecastsSo_114 (by decide) ?_
            refine lv_icmp_ne (tgt := 122) hx hb dL_areForecastsSo_115 (by decide) (fun c_100 => absurd ((t_eq (show (0 : Int32).toInt = 0 by decide) (show (0 : Int32).toInt = 0 by decide)).mpr (by omega)) c_100) (fun c_100 => ?_)
            refine lv_iconst (v := 1) hx hb dL_areForecastsSo_118 (by decide) ?_
            refine lv_goto (tgt := 123) hx hb dL_areForecastsSo_119 (by decide) ?_
            refine lv_istore (lv' := [(5, .int 1), (7, .int 0), (0, .ref ad.2.2.1), (1, .int (nI (N 2))), (2, .int (lsV N)), (3, .int r), (4, .int fv), (6, .int (nI k))]) hx hb dL_areForecastsSo_123 hl (by decide) rfl (fun ls hl => ?_)
            refine lv_iinc (v := nI (k + 1)) (lv' := [(6, .int (nI (k + 1))), (5, .int 1), (7, .int 0), (0, .ref ad.2.2.1), (1, .int (nI (N 2))), (2, .int (lsV N)), (3, .int r), (4, .int fv)]) hx hb dL_areForecastsSo_125 hl (k := 7) rfl (nI_1 k) (by decide) rfl (fun ls hl => ?_)
            refine lv_goto (tgt := 67) hx hb dL_areForecastsSo_128 (by decide) ?_
            exact ih (k + 1) D_95 (by omega) k_95.1 (by omega) (by omega) _ _ _ hP hD hS (lv_sub hl [3, 4, 5, 6, 7, 1, 0] rfl)
          · have h60 : ¬ 60 ≤ N 0 * N 1 := fun z => hb9 (Or.inr z)
            have hge : ¬ k + N 1 < 11 := fun z => hb9 (Or.inl z)
            have eL : lsV N = nI (11 - N 1) := if_neg h60
            rcases ho.2 hb9 with ev | ev
            · have hown := hown
              refine lv_aload_n hx hb dL_areForecastsSo_74 rfl (lv_at hl 0 rfl) ?_
              refine lv_iload_n hx hb dL_areForecastsSo_75 rfl (lv_at hl 1 rfl) ?_
              refine lv_iconst (v := 0) hx hb dL_areForecastsSo_76 (by decide) ?_
              refine lv_iconst (v := 0) hx hb dL_areForecastsSo_77 (by decide) ?_
              refine lv_iload hx hb dL_areForecastsSo_78 (lv_at hl 6 rfl) ?_
              refine z_callM (val := 0) (va_runV (As := [.int (nI (N 2)), .int 0, .int 0, .int (nI k)]) (rest := []) ⟨hx, hb, hml, hown, hts⟩ (pC_ifFrame' l G H.size ad h1 (Ud_0 h1) (a9 := N 2) (c9 := 0) (g9 := 0) (st := k) (by omega) (Nat.le_of_ble_eq_true rfl) (Nat.le_of_ble_eq_true rfl) (by omega) (by omega) (V := 0) ev) (cwV 4 hts gL_areForecastsSo_X5_ifFrame rfl rfl rfl (by decide +kernel) ⟨(Nat.le_of_ble_eq_true rfl), (Nat.le_of_ble_eq_true rfl)⟩) (zV (ci := 5) (q0 := 0) hK hP hD rfl (wCl_0 G ad D1)) rfl rfl hl.1 rfl (lv_room (Nat.le_of_ble_eq_true rfl)) dL_areForecastsSo_80 ⟨(Nat.le_of_ble_eq_true rfl), (Nat.le_of_ble_eq_true rfl)⟩) hP hD hS hA (fun D_101 H locs k_101 hP hD hS => ?_)
              refine lv_if_gt (tgt := 90) hx hb dL_areForecastsSo_83 (by decide) (fun c_102 => absurd ((t_lt (show (0 : Int32).toInt = 0 by decide) (show (0 : Int32).toInt = 0 by decide)).mp c_102) (by omega)) (fun c_102 => ?_)
              refine lv_iconst (v := 1) hx hb dL_areForecastsSo_86 (by decide) ?_
              refine lv_goto (tgt := 91) hx hb dL_areForecastsSo_87 (by decide) ?_
              refine lv_istore (lv' := [(7, .int 1), (0, .ref ad.2.2.1), (1, .int (nI (N 2))), (2, .int (lsV N)), (3, .int r), (4, .int fv), (5, .int 1), (6, .int (nI k))]) hx hb dL_areForecastsSo_91 hl (by decide) rfl (fun ls hl => ?_)
              refine lv_iload hx hb dL_areForecastsSo_93 (lv_at hl 6 rfl) ?_
              refine lv_if_eq (tgt := 122) hx hb dL_areForecastsSo_95 (by decide) (fun c_103 => absurd ((t_eq (show (1 : Int32).toInt = 1 by decide) (show (0 : Int32).toInt = 0 by decide)).mp c_103) (by omega)) (fun c_103 => ?_)
              refine lv_iload hx hb dL_areForecastsSo_98 (lv_at hl 0 rfl) ?_
              refine lv_iload_n hx hb dL_areForecastsSo_100 rfl (lv_at hl 3 rfl) ?_
              refine z_top eL ?_
              refine lv_if_le (tgt := 114) hx hb dL_areForecastsSo_101 (by decide) (fun c_104 => absurd ((t_le (nI_toInt (n := (11 - N 1)) (by omega)) (show (0 : Int32).toInt = 0 by decide)).mp c_104) (by omega)) (fun c_104 => ?_)
              refine lv_iload hx hb dL_areForecastsSo_104 (lv_at hl 7 rfl) ?_
              refine lv_iload_n hx hb dL_areForecastsSo_106 rfl (lv_at hl 3 rfl) ?_
              refine z_top eL ?_
              refine lv_icmp_lt (tgt := 114) hx hb dL_areForecastsSo_107 (by decide) (fun c_105 => absurd ((t_lt (nI_toInt (n := k) (by omega)) (nI_toInt (n := (11 - N 1)) (by omega))).mp c_105) (by omega)) (fun c_105 => ?_)
              refine lv_iconst (v := 1) hx hb dL_areForecastsSo_110 (by decide) ?_
              refine lv_goto (tgt := 115) hx hb dL_areForecastsSo_111 (by decide) ?_
              refine lv_icmp_ne (tgt := 122) hx hb dL_areForecastsSo_115 (by decide) (fun c_106 => absurd ((t_eq (show (1 : Int32).toInt = 1 by decide) (show (1 : Int32).toInt = 1 by decide)).mpr (by omega)) c_106) (fun c_106 => ?_)
              refine lv_iconst (v := 1) hx hb dL_areForecastsSo_118 (by decide) ?_
              refine lv_goto (tgt := 123) hx hb dL_areForecastsSo_119 (by decide) ?_
              refine lv_istore (lv' := [(5, .int 1), (7, .int 1), (0, .ref ad.2.2.1), (1, .int (nI (N 2))), (2, .int (lsV N)), (3, .int r), (4, .int fv), (6, .int (nI k))]) hx hb dL_areForecastsSo_123 hl (by decide) rfl (fun ls hl => ?_)
              refine lv_iinc (v := nI (k + 1)) (lv' := [(6, .int (nI (k + 1))), (5, .int 1), (7, .int 1), (0, .ref ad.2.2.1), (1, .int (nI (N 2))), (2, .int (lsV N)), (3, .int r), (4, .int fv)]) hx hb dL_areForecastsSo_125 hl (k := 7) rfl (nI_1 k) (by decide) rfl (fun ls hl => ?_)
              refine lv_goto (tgt := 67) hx hb dL_areForecastsSo_128 (by decide) ?_
              exact ih (k + 1) D_101 (by omega) k_101.1 (by omega) (by omega) _ _ _ hP hD hS (lv_sub hl [3, 4, 5, 6, 7, 1, 0] rfl)
            · have hown := hown
              refine lv_aload_n hx hb dL_areForecastsSo_74 rfl (lv_at hl 0 rfl) ?_
              refine lv_iload_n hx hb dL_areForecastsSo_75 rfl (lv_at hl 1 rfl) ?_
              refine lv_iconst (v := 0) hx hb dL_areForecastsSo_76 (by decide) ?_
              refine lv_iconst (v := 0) hx hb dL_areForecastsSo_77 (by decide) ?_
              refine lv_iload hx hb dL_areForecastsSo_78 (lv_at hl 6 rfl) ?_
              refine z_callM (val := (-1)) (va_runV (As := [.int (nI (N 2)), .int 0, .int 0, .int (nI k)]) (rest := []) ⟨hx, hb, hml, hown, hts⟩ (pC_ifFrame' l G H.size ad h1 (Ud_0 h1) (a9 := N 2) (c9 := 0) (g9 := 0) (st := k) (by omega) (Nat.le_of_ble_eq_true rfl) (Nat.le_of_ble_eq_true rfl) (by omega) (by omega) (V := (-1)) ev) (cwV 4 hts gL_areForecastsSo_X5_ifFrame rfl rfl rfl (by decide +kernel) ⟨(Nat.le_of_ble_eq_true rfl), (Nat.le_of_ble_eq_true rfl)⟩) (zV (ci := 5) (q0 := 0) hK hP hD rfl (wCl_0 G ad D1)) rfl rfl hl.1 rfl (lv_room (Nat.le_of_ble_eq_true rfl)) dL_areForecastsSo_80 ⟨(Nat.le_of_ble_eq_true rfl), (Nat.le_of_ble_eq_true rfl)⟩) hP hD hS hA (fun D_107 H locs k_107 hP hD hS => ?_)
              refine lv_if_gt (tgt := 90) hx hb dL_areForecastsSo_83 (by decide) (fun c_108 => absurd ((t_lt (show (0 : Int32).toInt = 0 by decide) (show (-1 : Int32).toInt = -1 by decide)).mp c_108) (by omega)) (fun c_108 => ?_)
              refine lv_iconst (v := 1) hx hb dL_areForecastsSo_86 (by decide) ?_
              refine lv_goto (tgt := 91) hx hb dL_areForecastsSo_87 (by decide) ?_
              refine lv_istore (lv' := [(7, .int 1), (0, .ref ad.2.2.1), (1, .int (nI (N 2))), (2, .int (lsV N)), (3, .int r), (4, .int fv), (5, .int 1), (6, .int (nI k))]) hx hb dL_areForecastsSo_91 hl (by decide) rfl (fun ls hl => ?_)
              refine lv_iload hx hb dL_areForecastsSo_93 (lv_at hl 6 rfl) ?_
              refine lv_if_eq (tgt := 122) hx hb dL_areForecastsSo_95 (by decide) (fun c_109 => absurd ((t_eq (show (1 : Int32).toInt = 1 by decide) (show (0 : Int32).toInt = 0 by decide)).mp c_109) (by omega)) (fun c_109 => ?_)
              refine lv_iload hx hb dL_areForecastsSo_98 (lv_at hl 0 rfl) ?_
              refine lv_iload_n hx hb dL_areForecastsSo_100 rfl (lv_at hl 3 rfl) ?_
              refine z_top eL ?_
              refine lv_if_le (tgt := 114) hx hb dL_areForecastsSo_101 (by decide) (fun c_110 => absurd ((t_le (nI_toInt (n := (11 - N 1)) (by omega)) (show (0 : Int32).toInt = 0 by decide)).mp c_110) (by omega)) (fun c_110 => ?_)
              refine lv_iload hx hb dL_areForecastsSo_104 (lv_at hl 7 rfl) ?_
              refine lv_iload_n hx hb dL_areForecastsSo_106 rfl (lv_at hl 3 rfl) ?_
              refine z_top eL ?_
              refine lv_icmp_lt (tgt := 114) hx hb dL_areForecastsSo_107 (by decide) (fun c_111 => absurd ((t_lt (nI_toInt (n := k) (by omega)) (nI_toInt (n := (11 - N 1)) (by omega))).mp c_111) (by omega)) (fun c_111 => ?_)
              refine lv_iconst (v := 1) hx hb dL_areForecastsSo_110 (by decide) ?_
              refine lv_goto (tgt := 115) hx hb dL_areForecastsSo_111 (by decide) ?_
              refine lv_icmp_ne (tgt := 122) hx hb dL_areForecastsSo_115 (by decide) (fun c_112 => absurd ((t_eq (show (1 : Int32).toInt = 1 by decide) (show (1 : Int32).toInt = 1 by decide)).mpr (by omega)) c_112) (fun c_112 => ?_)
              refine lv_iconst (v := 1) hx hb dL_areForecastsSo_118 (by decide) ?_
              refine lv_goto (tgt := 123) hx hb dL_areForecastsSo_119 (by decide) ?_
              refine lv_istore (lv' := [(5, .int 1), (7, .int 1), (0, .ref ad.2.2.1), (1, .int (nI (N 2))), (2, .int (lsV N)), (3, .int r), (4, .int fv), (6, .int (nI k))]) hx hb dL_areForecastsSo_123 hl (by decide) rfl (fun ls hl => ?_)
              refine lv_iinc (v := nI (k + 1)) (lv' := [(6, .int (nI (k + 1))), (5, .int 1), (7, .int 1), (0, .ref ad.2.2.1), (1, .int (nI (N 2))), (2, .int (lsV N)), (3, .int r), (4, .int fv)]) hx hb dL_areForecastsSo_125 hl (k := 7) rfl (nI_1 k) (by decide) rfl (fun ls hl => ?_)
              refine lv_goto (tgt := 67) hx hb dL_areForecastsSo_128 (by decide) ?_
              exact ih (k + 1) D_107 (by omega) k_107.1 (by omega) (by omega) _ _ _ hP hD hS (lv_sub hl [3, 4, 5, 6, 7, 1, 0] rfl)
    exact L67 20 1 D1 (by omega) h1 (by omega) (by omega) _ _ _ hP hD hS (lv_sub hl [0, 1, 2, 3, 4, 5, 6] rfl)
  by_cases er : rem N
  · have hown := hown
    refine lv_aload_n hx hb dL_areForecastsSo_0 rfl (lv_at hl 0 rfl) ?_
    refine z_callM (val := (lsV N)) (va_runV (As := []) (rest := []) ⟨hx, hb, hml, hown, hts⟩ (pC_leastStrength' l G s.heap.size ad h (Ud_0 h) (V := lsV N) rfl) (cwV 0 hts gL_areForecastsSo_X5_leastStrength rfl rfl rfl (by decide +kernel) ⟨(Nat.le_of_ble_eq_true rfl), (Nat.le_of_ble_eq_true rfl)⟩) (zV (ci := 5) (q0 := 0) hK hP hD rfl (wCl_0 G ad D)) rfl rfl hl.1 rfl (lv_room (Nat.le_of_ble_eq_true rfl)) dL_areForecastsSo_1 ⟨(Nat.le_of_ble_eq_true rfl), (Nat.le_of_ble_eq_true rfl)⟩) hP hD hS hA (fun D_113 H locs k_113 hP hD hS => ?_)
    refine lv_istore_n (lv' := [(2, .int (lsV N)), (0, .ref ad.2.2.1), (1, .int (nI (N 2)))]) hx hb dL_areForecastsSo_4 rfl hl (by decide) rfl (fun ls hl => ?_)
    refine lv_aload_n hx hb dL_areForecastsSo_5 rfl (lv_at hl 1 rfl) ?_
    refine z_callA (va_runV (As := []) (rest := []) ⟨hx, hb, hml, hown, hts⟩ (pC_refusalsToCome' l G H.size ad k_113.1 k_113.2) (cwV 0 hts gL_areForecastsSo_X5_refusalsToCome rfl rfl rfl (by decide +kernel) ⟨(Nat.le_of_ble_eq_true rfl), (Nat.le_of_ble_eq_true rfl)⟩) (zV (ci := 5) (q0 := 0) hK hP hD rfl (wCl_0 G ad D_113)) rfl rfl hl.1 rfl (lv_room (Nat.le_of_ble_eq_true rfl)) dL_areForecastsSo_6 ⟨(Nat.le_of_ble_eq_true rfl), (Nat.le_of_ble_eq_true rfl)⟩) hP hD hS hA (fun v_114 D_114 H locs k_114 hP hD hS => ?_)
    refine lv_istore_n (lv' := [(3, .int v_114), (2, .int (lsV N)), (0, .ref ad.2.2.1), (1, .int (nI (N 2)))]) hx hb dL_areForecastsSo_9 rfl hl (by decide) rfl (fun ls hl => ?_)
    refine lv_aload_n hx hb dL_areForecastsSo_10 rfl (lv_at hl 2 rfl) ?_
    refine z_callG (val := nI (62 - N 6)) (va_runV (As := []) (rest := []) ⟨hx, hb, hml, hown, hts⟩ (pC_ticksToForget' l G H.size ad k_114.2.1 (V := nI (62 - N 6)) (if_pos er)) (cwV 0 hts gL_areForecastsSo_X5_ticksToForget rfl rfl rfl (by decide +kernel) ⟨(Nat.le_of_ble_eq_true rfl), (Nat.le_of_ble_eq_true rfl)⟩) (zV (ci := 5) (q0 := 0) hK hP hD rfl (wCl_0 G ad D_114)) rfl rfl hl.1 rfl (lv_room (Nat.le_of_ble_eq_true rfl)) dL_areForecastsSo_11 ⟨(Nat.le_of_ble_eq_true rfl), (Nat.le_of_ble_eq_true rfl)⟩) hP hD hS hA (fun H locs hP hD hS => ?_)
    refine lv_istore (lv' := [(4, .int (nI (62 - N 6))), (3, .int v_114), (2, .int (lsV N)), (0, .ref ad.2.2.1), (1, .int (nI (N 2)))]) hx hb dL_areForecastsSo_14 hl (by decide) rfl (fun ls hl => ?_)
    refine lv_iload hx hb dL_areForecastsSo_16 (lv_at hl 0 rfl) ?_
    refine lv_iconst (v := -1) hx hb dL_areForecastsSo_18 (by decide) ?_
    refine lv_icmp_ne (tgt := 26) hx hb dL_areForecastsSo_19 (by decide) (fun c_116 => ?_) (fun c_116 => absurd ((t_eq (nI_toInt (n := (62 - N 6)) (by omega)) (show (-1 : Int32).toInt = -1 by decide)).mp c_116) (by omega))
    refine lv_iconst (v := 0) hx hb dL_areForecastsSo_26 (by decide) ?_
    refine lv_aload_n hx hb dL_areForecastsSo_27 rfl (lv_at hl 3 rfl) ?_
    refine z_callG (val := nI (N 3)) (va_runV (As := []) (rest := [.int 0]) ⟨hx, hb, hml, hown, hts⟩ (pC_remembered' l G H.size ad k_114.2.1 (V := nI (N 3)) (if_pos er)) (cwV 0 hts gL_areForecastsSo_X5_remembered rfl rfl rfl (by decide +kernel) ⟨(Nat.le_of_ble_eq_true rfl), (Nat.le_of_ble_eq_true rfl)⟩) (zV (ci := 5) (q0 := 0) hK hP hD rfl (wCl_0 G ad D_114)) rfl rfl hl.1 rfl (lv_room (Nat.le_of_ble_eq_true rfl)) dL_areForecastsSo_28 ⟨(Nat.le_of_ble_eq_true rfl), (Nat.le_of_ble_eq_true rfl)⟩) hP hD hS hA (fun H locs hP hD hS => ?_)
    refine lv_iconst (v := -1) hx hb dL_areForecastsSo_31 (by decide) ?_
    refine lv_icmp_ne (tgt := 39) hx hb dL_areForecastsSo_32 (by decide) (fun c_118 => ?_) (fun c_118 => absurd ((t_eq (nI_toInt (n := (N 3)) (by omega)) (show (-1 : Int32).toInt = -1 by decide)).mp c_118) (by omega))
    refine lv_iconst (v := 0) hx hb dL_areForecastsSo_39 (by decide) ?_
    refine lv_icmp_ne (tgt := 61) hx hb dL_areForecastsSo_40 (by decide) (fun c_119 => absurd ((t_eq (show (0 : Int32).toInt = 0 by decide) (show (0 : Int32).toInt = 0 by decide)).mpr (by omega)) c_119) (fun c_119 => ?_)
    refine lv_aload_n hx hb dL_areForecastsSo_43 rfl (lv_at hl 3 rfl) ?_
    refine z_callG (val := nI (N 3)) (va_runV (As := []) (rest := []) ⟨hx, hb, hml, hown, hts⟩ (pC_remembered' l G H.size ad k_114.2.1 (V := nI (N 3)) (if_pos er)) (cwV 0 hts gL_areForecastsSo_X5_remembered rfl rfl rfl (by decide +kernel) ⟨(Nat.le_of_ble_eq_true rfl), (Nat.le_of_ble_eq_true rfl)⟩) (zV (ci := 5) (q0 := 0) hK hP hD rfl (wCl_0 G ad D_114)) rfl rfl hl.1 rfl (lv_room (Nat.le_of_ble_eq_true rfl)) dL_areForecastsSo_44 ⟨(Nat.le_of_ble_eq_true rfl), (Nat.le_of_ble_eq_true rfl)⟩) hP hD hS hA (fun H locs hP hD hS => ?_)
    refine lv_if_ge (tgt := 57) hx hb dL_areForecastsSo_47 (by decide) (fun c_121 => ?_) (fun c_121 => absurd ((t_le (show (0 : Int32).toInt = 0 by decide) (nI_toInt (n := (N 3)) (by omega))).mpr (by omega)) c_121)
    refine lv_iconst (v := 1) hx hb dL_areForecastsSo_57 (by decide) ?_
    refine lv_goto (tgt := 62) hx hb dL_areForecastsSo_58 (by decide) ?_
    refine lv_istore (lv' := [(5, .int 1), (4, .int (nI (62 - N 6))), (3, .int v_114), (2, .int (lsV N)), (0, .ref ad.2.2.1), (1, .int (nI (N 2)))]) hx hb dL_areForecastsSo_62 hl (by decide) rfl (fun ls hl => ?_)
    refine lv_iconst (v := 1) hx hb dL_areForecastsSo_64 (by decide) ?_
    refine lv_istore (lv' := [(6, .int 1), (5, .int 1), (4, .int (nI (62 - N 6))), (3, .int v_114), (2, .int (lsV N)), (0, .ref ad.2.2.1), (1, .int (nI (N 2)))]) hx hb dL_areForecastsSo_65 hl (by decide) rfl (fun ls hl => ?_)
    exact M67 D_114 v_114 (nI (62 - N 6)) H _ _ k_114.2.1 k_114.1 (tkV_r er).symm hP hD hS (lv_sub hl [5, 6, 4, 3, 2, 1, 0] rfl)
  · have hown := hown
    refine lv_aload_n hx hb dL_areForecastsSo_0 rfl (lv_at hl 0 rfl) ?_
    refine z_callM (val := (lsV N)) (va_runV (As := []) (rest := []) ⟨hx, hb, hml, hown, hts⟩ (pC_leastStrength' l G s.heap.size ad h (Ud_0 h) (V := lsV N) rfl) (cwV 0 hts gL_areForecastsSo_X5_leastStrength rfl rfl rfl (by decide +kernel) ⟨(Nat.le_of_ble_eq_true rfl), (Nat.le_of_ble_eq_true rfl)⟩) (zV (ci := 5) (q0 := 0) hK hP hD rfl (wCl_0 G ad D)) rfl rfl hl.1 rfl (lv_room (Nat.le_of_ble_eq_true rfl)) dL_areForecastsSo_1 ⟨(Nat.le_of_ble_eq_true rfl), (Nat.le_of_ble_eq_true rfl)⟩) hP hD hS hA (fun D_122 H locs k_122 hP hD hS => ?_)
    refine lv_istore_n (lv' := [(2, .int (lsV N)), (0, .ref ad.2.2.1), (1, .int (nI (N 2)))]) hx hb dL_areForecastsSo_4 rfl hl (by decide) rfl (fun ls hl => ?_)
    refine lv_aload_n hx hb dL_areForecastsSo_5 rfl (lv_at hl 1 rfl) ?_
    refine z_callA (va_runV (As := []) (rest := []) ⟨hx, hb, hml, hown, hts⟩ (pC_refusalsToCome' l G H.size ad k_122.1 k_122.2) (cwV 0 hts gL_areForecastsSo_X5_refusalsToCome rfl rfl rfl (by decide +kernel) ⟨(Nat.le_of_ble_eq_true rfl), (Nat.le_of_ble_eq_true rfl)⟩) (zV (ci := 5) (q0 := 0) hK hP hD rfl (wCl_0 G ad D_122)) rfl rfl hl.1 rfl (lv_room (Nat.le_of_ble_eq_true rfl)) dL_areForecastsSo_6 ⟨(Nat.le_of_ble_eq_true rfl), (Nat.le_of_ble_eq_true rfl)⟩) hP hD hS hA (fun v_123 D_123 H locs k_123 hP hD hS => ?_)
    refine lv_istore_n (lv' := [(3, .int v_123), (2, .int (lsV N)), (0, .ref ad.2.2.1), (1, .int (nI (N 2)))]) hx hb dL_areForecastsSo_9 rfl hl (by decide) rfl (fun ls hl => ?_)
    refine lv_aload_n hx hb dL_areForecastsSo_10 rfl (lv_at hl 2 rfl) ?_
    refine z_callG (val := (-1)) (va_runV (As := []) (rest := []) ⟨hx, hb, hml, hown, hts⟩ (pC_ticksToForget' l G H.size ad k_123.2.1 (V := -1) (if_neg er)) (cwV 0 hts gL_areForecastsSo_X5_ticksToForget rfl rfl rfl (by decide +kernel) ⟨(Nat.le_of_ble_eq_true rfl), (Nat.le_of_ble_eq_true rfl)⟩) (zV (ci := 5) (q0 := 0) hK hP hD rfl (wCl_0 G ad D_123)) rfl rfl hl.1 rfl (lv_room (Nat.le_of_ble_eq_true rfl)) dL_areForecastsSo_11 ⟨(Nat.le_of_ble_eq_true rfl), (Nat.le_of_ble_eq_true rfl)⟩) hP hD hS hA (fun H locs hP hD hS => ?_)
    refine lv_istore (lv' := [(4, .int (-1)), (3, .int v_123), (2, .int (lsV N)), (0, .ref ad.2.2.1), (1, .int (nI (N 2)))]) hx hb dL_areForecastsSo_14 hl (by decide) rfl (fun ls hl => ?_)
    refine lv_iload hx hb dL_areForecastsSo_16 (lv_at hl 0 rfl) ?_
    refine lv_iconst (v := -1) hx hb dL_areForecastsSo_18 (by decide) ?_
    refine lv_icmp_ne (tgt := 26) hx hb dL_areForecastsSo_19 (by decide) (fun c_125 => absurd ((t_eq (show (-1 : Int32).toInt = -1 by decide) (show (-1 : Int32).toInt = -1 by decide)).mpr (by omega)) c_125) (fun c_125 => ?_)
    refine lv_iconst (v := 1) hx hb dL_areForecastsSo_22 (by decide) ?_
    refine lv_goto (tgt := 27) hx hb dL_areForecastsSo_23 (by decide) ?_
    refine lv_aload_n hx hb dL_areForecastsSo_27 rfl (lv_at hl 3 rfl) ?_
    refine z_callG (val := (-1)) (va_runV (As := []) (rest := [.int 1]) ⟨hx, hb, hml, hown, hts⟩ (pC_remembered' l G H.size ad k_123.2.1 (V := -1) (if_neg er)) (cwV 0 hts gL_areForecastsSo_X5_remembered rfl rfl rfl (by decide +kernel) ⟨(Nat.le_of_ble_eq_true rfl), (Nat.le_of_ble_eq_true rfl)⟩) (zV (ci := 5) (q0 := 0) hK hP hD rfl (wCl_0 G ad D_123)) rfl rfl hl.1 rfl (lv_room (Nat.le_of_ble_eq_true rfl)) dL_areForecastsSo_28 ⟨(Nat.le_of_ble_eq_true rfl), (Nat.le_of_ble_eq_true rfl)⟩) hP hD hS hA (fun H locs hP hD hS => ?_)
    refine lv_iconst (v := -1) hx hb dL_areForecastsSo_31 (by decide) ?_
    refine lv_icmp_ne (tgt := 39) hx hb dL_areForecastsSo_32 (by decide) (fun c_127 => absurd ((t_eq (show (-1 : Int32).toInt = -1 by decide) (show (-1 : Int32).toInt = -1 by decide)).mpr (by omega)) c_127) (fun c_127 => ?_)
    refine lv_iconst (v := 1) hx hb dL_areForecastsSo_35 (by decide) ?_
    refine lv_goto (tgt := 40) hx hb dL_areForecastsSo_36 (by decide) ?_
    refine lv_icmp_ne (tgt := 61) hx hb dL_areForecastsSo_40 (by decide) (fun c_128 => absurd ((t_eq (show (1 : Int32).toInt = 1 by decide) (show (1 : Int32).toInt = 1 by decide)).mpr (by omega)) c_128) (fun c_128 => ?_)
    refine lv_aload_n hx hb dL_areForecastsSo_43 rfl (lv_at hl 3 rfl) ?_
    refine z_callG (val := (-1)) (va_runV (As := []) (rest := []) ⟨hx, hb, hml, hown, hts⟩ (pC_remembered' l G H.size ad k_123.2.1 (V := -1) (if_neg er)) (cwV 0 hts gL_areForecastsSo_X5_remembered rfl rfl rfl (by decide +kernel) ⟨(Nat.le_of_ble_eq_true rfl), (Nat.le_of_ble_eq_true rfl)⟩) (zV (ci := 5) (q0 := 0) hK hP hD rfl (wCl_0 G ad D_123)) rfl rfl hl.1 rfl (lv_room (Nat.le_of_ble_eq_true rfl)) dL_areForecastsSo_44 ⟨(Nat.le_of_ble_eq_true rfl), (Nat.le_of_ble_eq_true rfl)⟩) hP hD hS hA (fun H locs hP hD hS => ?_)
    refine lv_if_ge (tgt := 57) hx hb dL_areForecastsSo_47 (by decide) (fun c_130 => absurd ((t_le (show (0 : Int32).toInt = 0 by decide) (show (-1 : Int32).toInt = -1 by decide)).mp c_130) (by omega)) (fun c_130 => ?_)
    refine lv_aload_n hx hb dL_areForecastsSo_50 rfl (lv_at hl 3 rfl) ?_
    refine z_callG (val := 0) (va_runV (As := []) (rest := []) ⟨hx, hb, hml, hown, hts⟩ (pC_holds' l G H.size ad k_123.2.1 (V := 0) (if_neg er)) (cwV 0 hts gL_areForecastsSo_X5_holds rfl rfl rfl (by decide +kernel) ⟨(Nat.le_of_ble_eq_true rfl), (Nat.le_of_ble_eq_true rfl)⟩) (zV (ci := 5) (q0 := 0) hK hP hD rfl (wCl_0 G ad D_123)) rfl rfl hl.1 rfl (lv_room (Nat.le_of_ble_eq_true rfl)) dL_areForecastsSo_51 ⟨(Nat.le_of_ble_eq_true rfl), (Nat.le_of_ble_eq_true rfl)⟩) hP hD hS hA (fun H locs hP hD hS => ?_)
    refine lv_if_ne (tgt := 61) hx hb dL_areForecastsSo_54 (by decide) (fun c_132 => absurd ((t_eq (show (0 : Int32).toInt = 0 by decide) (show (0 : Int32).toInt = 0 by decide)).mpr (by omega)) c_132) (fun c_132 => ?_)
    refine lv_iconst (v := 1) hx hb dL_areForecastsSo_57 (by decide) ?_
    refine lv_goto (tgt := 62) hx hb dL_areForecastsSo_58 (by decide) ?_
    refine lv_istore (lv' := [(5, .int 1), (4, .int (-1)), (3, .int v_123), (2, .int (lsV N)), (0, .ref ad.2.2.1), (1, .int (nI (N 2)))]) hx hb dL_areForecastsSo_62 hl (by decide) rfl (fun ls hl => ?_)
    refine lv_iconst (v := 1) hx hb dL_areForecastsSo_64 (by decide) ?_
    refine lv_istore (lv' := [(6, .int 1), (5, .int 1), (4, .int (-1)), (3, .int v_123), (2, .int (lsV N)), (0, .ref ad.2.2.1), (1, .int (nI (N 2)))]) hx hb dL_areForecastsSo_65 hl (by decide) rfl (fun ls hl => ?_)
    exact M67 D_123 v_123 (-1) H _ _ k_123.2.1 k_123.1 (tkV_n er).symm hP hD hS (lv_sub hl [5, 6, 4, 3, 2, 1, 0] rfl)
end PL5
