section LWY
/-- what holds all along the law's loop -/
def lwY (p : Program) (s : State) (m : MethodId) (c : Code) (bs L : Nat) (xs : Nat → Int32) (G : zG) (A : Nat → Prop) : Prop :=
  p.tables.exec = Jvm.exec ∧ c.code = cL_law ∧ c.maxLocals = 7 ∧ s.vm.findClass RL = some m.cls ∧ (∀ w ∈ wsL_law, w.before #[Value.ref bs] s = true) ∧ va_X bs L xs s s.heap ∧ bs < s.heap.size ∧ ¬ A bs ∧ zK G s ∧ (∀ q, s.heap.size ≤ q → A q) ∧ L ≤ 260
theorem lwY.drawn {p : Program} {s : State} {m : MethodId} {c : Code} {bs L : Nat} {xs : Nat → Int32} {G : zG} {A : Nat → Prop} (d0 : Drawn) (h : lwY p s m c bs L xs G A) : lwY p (s.setDrawn d0) m c bs L xs G A := by
  obtain ⟨h1, h2, h3, h4, h5, h6, h7, h8, h9, h10, h11⟩ := h
  exact ⟨h1, h2, h3, h4, dr_words h5 d0, h6, h7, h8, h9, h10, h11⟩
section
variable {p : Program} {l : Launch} {e : Env} {R0 : Room} {s : State} {m : MethodId} {args : Array Value} {below : List Frame} {meth : Method} {c : Code} {H : Heap} {locs : List Loc} {cells slots : Nat} {Q : State → Prop}
variable {pc : Nat} {ls : Array Slot} {rest st0 : List Value} {G : zG} {A : Nat → Prop} {ad : zAd} {D : zDc} {H0 : Heap} {mc ms : Nat} {a : Array Value} {d0 : Drawn}
/-- a call that may draw -/
theorem z_callQ {post : UInt64 → zDc → Prop} (hd0 : s.drawn.sameBut d0 lw_cs) (hr : va_RunD lw_cs p l e R0 (s.setDrawn d0) m args below meth c H locs cells slots mc ms (F0 m pc ls st0) rest (va_Qd post (fun u t => va_P G.1 vwCl (wCl G ad u) t.heap ∧ va_D (va_A (wCl G ad D) H.size) (wCl G ad u)) (va_A (wCl G ad D) H.size) a) (va_A (wCl G ad D) H.size))
    (hP : va_P G.1 vwCl (wCl G ad D) H) (hD : va_D A (wCl G ad D)) (hS : va_S A H0 H locs) (hA : ∀ q, H0.size ≤ q → A q)
    (kk : ∀ (r : UInt64) (u : zDc) (H1 : Heap) (locs1 : List Loc) (d1 : Drawn), s.drawn.sameBut d1 lw_cs → post r u → va_P G.1 vwCl (wCl G ad u) H1 → va_D A (wCl G ad u) → va_S A H0 H1 locs1 → W p l e R0 (s.setDrawn d1) m args below meth c H1 locs1 (cells + mc) (slots + ms) Q (F0 m (pc + 3) ls (.double r :: rest))) : W p l e R0 (s.setDrawn d0) m args below meth c H locs cells slots Q (F0 m pc ls st0) := by
  have hF := z_freeX (wr := []) hD hS hA
  refine va_calldD hd0 hr hS (fun q _ h => hF q h) hF (fun r u t H1 locs1 ht hvm hw hB hz1 hk1 hS1 d1 hd1 => ?_)
  obtain ⟨hP1, hD1⟩ := hB
  rw [ht] at hP1
  obtain ⟨hP2, hD2⟩ := z_joinX (wr := []) hP hD hk1 hF hP1 hD1
  exact kk r u H1 locs1 d1 hd1 hw hP2 hD2 hS1
/-- a call without cells that gives any number -/
theorem z_callN2 {C : va_W} (hr : va_Run p l e R0 s m args below meth c H locs cells slots mc ms (F0 m pc ls st0) rest (va_Qi (fun (_ : Int32) (_ : Unit) => True) (fun _ t => va_P G.1 vwCl [] t.heap ∧ va_D (va_A [] H.size) []) (va_A [] H.size) a) (va_A [] H.size))
    (hP : va_P G.1 vwCl C H) (hD : va_D A C) (hS : va_S A H0 H locs) (hA : ∀ q, H0.size ≤ q → A q)
    (kk : ∀ (v : Int32) (H1 : Heap) (locs1 : List Loc), va_P G.1 vwCl C H1 → va_D A C → va_S A H0 H1 locs1 → W p l e R0 s m args below meth c H1 locs1 (cells + mc) (slots + ms) Q (F0 m (pc + 3) ls (.int v :: rest))) : W p l e R0 s m args below meth c H locs cells slots Q (F0 m pc ls st0) :=
  z_calliR (R := C) (C := []) (w1 := fun (_ : Unit) => []) hr (by rw [List.append_nil]; exact hP) (by rw [List.append_nil]; exact hD) hS hA (fun r u H1 locs1 h1 h2 h3 h4 => by
    rw [List.append_nil] at h2 h3
    exact kk r H1 locs1 h2 h3 h4)
end
def N0 : zN := fun i => if i = 1 then 10 else 0
theorem N0_0 {i : Nat} (h : i ≠ 1) : N0 i = 0 := if_neg h
theorem vw_N0 : vw zS0 N0 := by
  refine ⟨⟨by decide +kernel, by decide +kernel, by decide +kernel, by decide +kernel, by decide +kernel, by decide +kernel, by decide +kernel, by decide +kernel, by decide +kernel, by decide +kernel⟩, fun c hc => ?_, fun c hc => ?_, fun k h1 h2 => ?_, rfl⟩
  · rw [N0_0 (by omega)]; exact nI_0.symm
  · rw [N0_0 (by omega)]; exact nI_0.symm
  · rw [N0_0 (by omega)]; exact nI_0.symm
theorem bnd_N0 : bnd 0 N0 := by
  refine ⟨⟨by decide, by decide, by decide, by decide, by decide, by decide, by decide, by decide, by decide, by decide, by decide⟩, fun c hc => ?_, fun c hc => ?_, by decide⟩
  · rw [N0_0 (by omega)]; omega
  · rw [N0_0 (by omega)]; omega
theorem J_0 {pp : Nat → Nat → Nat} : J 0 (pp, (0, fun _ => zS0), zS0, ((0, 0, 0, 0), (0, fun _ => 0), (0, fun _ => 0)), (0, fun _ => 0)) N0 := ⟨vw_N0, bnd_N0, Nat.zero_le _, ⟨Nat.zero_le _, Nat.zero_le _⟩, Nat.zero_le _⟩
end LWY
section LOOP
set_option maxRecDepth 100000 in
set_option maxHeartbeats 4000000 in
/-- the law's loop: k events are behind -/
theorem law_loop {p : Program} {l : Launch} {e : Env} {s : State} {m : MethodId} {below : List Frame} {meth : Method} {c : Code} {bs L : Nat} {xs : Nat → Int32} {G : zG} (C0 : lwY p s m c bs L xs G (fun z : Nat => s.heap.size ≤ z)) (hr : meth.sig.returnType = ret) (hlocks : meth.locks = false) {ad : zAd} :
    ∀ (n9 k : Nat), 52 < k + n9 → k ≤ 52 → ∀ (D : zDc) (N : zN) (n : Nat) (d0 : Drawn) (H : Heap) (locs : List Loc) (ls : Array Slot), s.drawn.sameBut d0 lw_cs → J n D N → n ≤ 40 * k → N 8 ≤ k → va_P G.1 vwCl (wCl G ad D) H → va_D (fun z : Nat => s.heap.size ≤ z) (wCl G ad D) → va_S (fun z : Nat => s.heap.size ≤ z) s.heap H locs → lv_has ls 7 [(0, .ref bs), (1, .ref ad.2.2.1), (2, .int (nI (N 2))), (3, .int (nI k))] →
      W p l e room_1 (s.setDrawn d0) m #[Value.ref bs] below meth c H locs 100 2000 (lw_Z below #[Value.ref bs] s) (F0 m 12 ls []) := by
  intro n9
  induction n9 with
  | zero =>
    intro k h1 h2
    exact absurd h1 (by omega)
  | succ n9 ih =>
    intro k h1 h2 D N n d0 H locs ls hd0 hJ hn hN8 hP hD hS hl
    obtain ⟨hx, hb, hml, hown, hts, hX, hbl, hbA, hK, hA, hL⟩ := id (C0.drawn d0)
    refine lv_iload_n hx hb dL_law_12 rfl (lv_at hl 3 rfl) ?_
    refine lv_bipush (v := 52) hx hb dL_law_13 (by decide) ?_
    refine lv_icmp_ge (tgt := 230) hx hb dL_law_15 (by decide) (fun c_1 => ?_) (fun c_1 => ?_)
    · refine lv_iconst (v := 1) hx hb dL_law_230 (by decide) ?_
      refine va_forget (fun z hz => hS.2.2 z hz) ?_
      refine W.widen (k := 600104) (n := 7301314) (by omega) (by omega) ?_
      exact lw_ret hd0 hx hb hr hlocks dL_law_231
    · have hk : k < 52 := Nat.not_le.mp (fun z => c_1 ((z_le (a := 52) rfl rfl (by omega) (by omega)).mpr z))
      refine lv_aload_n hx hb dL_law_18 rfl (lv_at hl 0 rfl) ?_
      refine lv_iload_n hx hb dL_law_19 rfl (lv_at hl 3 rfl) ?_
      refine z_callN2 (va_runS (As := [.ref bs, .int (nI k)]) (rest := []) ⟨hx, hb, hml, hown, hts⟩ (pL_cell l G H.size bs k L hL (by omega) xs) (va_cwS 2 hts gL_law_L_cell rfl rfl rfl (by decide +kernel) ⟨(Nat.le_of_ble_eq_true rfl), (Nat.le_of_ble_eq_true rfl)⟩) (zSs hX hbl hbA hS) rfl rfl hl.1 rfl (lv_room (Nat.le_of_ble_eq_true rfl)) dL_law_20 ⟨(Nat.le_of_ble_eq_true rfl), (Nat.le_of_ble_eq_true rfl)⟩) hP hD hS hA (fun v H locs hP hD hS => ?_)
      refine lv_istore (lv' := [(4, .int v), (0, .ref bs), (1, .ref ad.2.2.1), (2, .int (nI (N 2))), (3, .int (nI k))]) hx hb dL_law_23 hl (by decide) rfl (fun ls hl => ?_)
      refine lv_aload_n hx hb dL_law_25 rfl (lv_at hl 2 rfl) ?_
      refine lv_iload hx hb dL_law_26 (lv_at hl 0 rfl) ?_
      refine z_callA (va_runS (As := [.ref ad.2.2.1, .int v]) (rest := []) ⟨hx, hb, hml, hown, hts⟩ (pL_does l G H.size ad hJ (by omega) v) (va_cwS 2 hts gL_law_L_does rfl rfl rfl (by decide +kernel) ⟨(Nat.le_of_ble_eq_true rfl), (Nat.le_of_ble_eq_true rfl)⟩) (zS hK hP hD) rfl rfl hl.1 rfl (lv_room (Nat.le_of_ble_eq_true rfl)) dL_law_28 ⟨(Nat.le_of_ble_eq_true rfl), (Nat.le_of_ble_eq_true rfl)⟩) hP hD hS hA (fun v_2 D_2 H locs k_2 hP hD hS => ?_)
      obtain ⟨g1, n1, N1, gn, hJ1, ga, g8⟩ := k_2
      obtain ⟨⟨b0, b1, b2, b3, b4, b5, b6, b7, b8, b9, b10⟩, ba, bd, bl⟩ := id hJ1.2.1
      refine lv_istore (lv' := [(5, .int v_2), (4, .int v), (0, .ref bs), (1, .ref ad.2.2.1), (2, .int (nI (N 2))), (3, .int (nI k))]) hx hb dL_law_31 hl (by decide) rfl (fun ls hl => ?_)
      have M65 : ∀ (H : Heap) (locs : List Loc) (ls : Array Slot), va_P G.1 vwCl (wCl G ad D_2) H → va_D (fun z : Nat => s.heap.size ≤ z) (wCl G ad D_2) → va_S (fun z : Nat => s.heap.size ≤ z) s.heap H locs → lv_has ls 7 [(0, .ref bs), (1, .ref ad.2.2.1), (3, .int (nI k)), (4, .int v), (5, .int v_2)] → W p l e room_1 (s.setDrawn d0) m #[Value.ref bs] below meth c H locs 100 2000 (lw_Z below #[Value.ref bs] s) (F0 m 65 ls [.int (nI (N1 2))]) := by
        intro  H locs ls  hP hD hS hl
        refine lv_istore_n (lv' := [(2, .int (nI (N1 2))), (0, .ref bs), (1, .ref ad.2.2.1), (3, .int (nI k)), (4, .int v), (5, .int v_2)]) hx hb dL_law_65 rfl hl (by decide) rfl (fun ls hl => ?_)
        refine lv_iload hx hb dL_law_66 (lv_at hl 5 rfl) ?_
        refine lv_iconst (v := -1) hx hb dL_law_68 (by decide) ?_
        refine lv_icmp_lt (tgt := 142) hx hb dL_law_69 (by decide) (fun c_3 => absurd (Int32.lt_iff_toInt_lt.mp c_3) (by have := Int32.le_iff_toInt_le.mp g1; omega)) (fun c_3 => ?_)
        refine lv_aload_n hx hb dL_law_72 rfl (lv_at hl 2 rfl) ?_
        refine z_callQ (s := s) hd0 (va_runV_D (As := []) (rest := []) ⟨hx, hb, hml, hown, hts⟩ (pC_hitShare l G H.size ad hJ1) (cwV 0 hts gL_law_X5_hitShare rfl rfl rfl (by decide +kernel) ⟨(Nat.le_of_ble_eq_true rfl), (Nat.le_of_ble_eq_true rfl)⟩) (zV (s := s.setDrawn d0) (ci := 5) (q0 := 0) hK hP hD rfl (wCl_0 G ad D_2)) rfl rfl hl.1 rfl (lv_room (Nat.le_of_ble_eq_true rfl)) dL_law_73 ⟨(Nat.le_of_ble_eq_true rfl), (Nat.le_of_ble_eq_true rfl)⟩) hP hD hS hA (fun r_4 D_4 H locs d_4 hd_4 k_4 hP hD hS => ?_)
        obtain ⟨sh_4, e9_4⟩ := k_4
        rw [e9_4] at hP hD
        have hs_4 := hs_ok (by omega) (by omega) sh_4
        clear hx hb hml hown hts hX hbl hbA hK hA hL
        obtain ⟨hx, hb, hml, hown, hts, hX, hbl, hbA, hK, hA, hL⟩ := id (C0.drawn d_4)
        refine lv_dconst0 hx hb dL_law_76 ?_
        refine lv_dcmp hx hb dL_law_77 ?_
        refine lv_if_lt (tgt := 142) hx hb dL_law_78 (by decide) (fun c_5 => absurd (Int32.lt_iff_toInt_lt.mp c_5) (by have := Int32.le_iff_toInt_le.mp hs_4.1; omega)) (fun c_5 => ?_)
        refine lv_aload_n hx hb dL_law_81 rfl (lv_at hl 2 rfl) ?_
        refine z_callQ (s := s) hd_4 (va_runV_D (As := []) (rest := []) ⟨hx, hb, hml, hown, hts⟩ (pC_hitShare l G H.size ad hJ1) (cwV 0 hts gL_law_X5_hitShare rfl rfl rfl (by decide +kernel) ⟨(Nat.le_of_ble_eq_true rfl), (Nat.le_of_ble_eq_true rfl)⟩) (zV (s := s.setDrawn d_4) (ci := 5) (q0 := 0) hK hP hD rfl (wCl_0 G ad D_2)) rfl rfl hl.1 rfl (lv_room (Nat.le_of_ble_eq_true rfl)) dL_law_82 ⟨(Nat.le_of_ble_eq_true rfl), (Nat.le_of_ble_eq_true rfl)⟩) hP hD hS hA (fun r_6 D_6 H locs d_6 hd_6 k_6 hP hD hS => ?_)
        obtain ⟨sh_6, e9_6⟩ := k_6
        rw [e9_6] at hP hD
        have hs_6 := hs_ok (by omega) (by omega) sh_6
        clear hx hb hml hown hts hX hbl hbA hK hA hL
        obtain ⟨hx, hb, hml, hown, hts, hX, hbl, hbA, hK, hA, hL⟩ := id (C0.drawn d_6)
        refine lv_dconst1 hx hb dL_law_85 ?_
        refine lv_dcmp hx hb dL_law_86 ?_
        refine lv_if_gt (tgt := 142) hx hb dL_law_87 (by decide) (fun c_7 => absurd (Int32.lt_iff_toInt_lt.mp c_7) (by have := Int32.le_iff_toInt_le.mp hs_6.2; omega)) (fun c_7 => ?_)
        refine lv_aload_n hx hb dL_law_90 rfl (lv_at hl 2 rfl) ?_
        refine z_callG (val := nI (rfs N1)) (va_runS (As := [.ref ad.2.2.1]) (rest := []) ⟨hx, hb, hml, hown, hts⟩ (pL_refusals l G H.size ad hJ1) (va_cwS 1 hts gL_law_L_refusals rfl rfl rfl (by decide +kernel) ⟨(Nat.le_of_ble_eq_true rfl), (Nat.le_of_ble_eq_true rfl)⟩) (zS hK hP hD) rfl rfl hl.1 rfl (lv_room (Nat.le_of_ble_eq_true rfl)) dL_law_91 ⟨(Nat.le_of_ble_eq_true rfl), (Nat.le_of_ble_eq_true rfl)⟩) hP hD hS hA (fun H locs hP hD hS => ?_)
        refine lv_aload_n hx hb dL_law_94 rfl (lv_at hl 2 rfl) ?_
        refine z_callG (val := nI (N1 7)) (va_runV (As := []) (rest := [.int (nI (rfs N1))]) ⟨hx, hb, hml, hown, hts⟩ (pC_presses l G H.size ad hJ1) (cwV 0 hts gL_law_X5_presses rfl rfl rfl (by decide +kernel) ⟨(Nat.le_of_ble_eq_true rfl), (Nat.le_of_ble_eq_true rfl)⟩) (zV (ci := 5) (q0 := 0) hK hP hD rfl (wCl_0 G ad D_2)) rfl rfl hl.1 rfl (lv_room (Nat.le_of_ble_eq_true rfl)) dL_law_95 ⟨(Nat.le_of_ble_eq_true rfl), (Nat.le_of_ble_eq_true rfl)⟩) hP hD hS hA (fun H locs hP hD hS => ?_)
        refine lv_iadd hx hb dL_law_98 ?_
        refine z_top (show nI (rfs N1) + nI (N1 7) = nI ((rfs N1) + (N1 7)) from nI_add (rfs N1) (N1 7)) ?_
        refine lv_aload_n hx hb dL_law_99 rfl (lv_at hl 2 rfl) ?_
        refine z_callG (val := nI (N1 8)) (va_runV (As := []) (rest := [.int (nI ((rfs N1) + (N1 7)))]) ⟨hx, hb, hml, hown, hts⟩ (pC_received l G H.size ad hJ1) (cwV 0 hts gL_law_X5_received rfl rfl rfl (by decide +kernel) ⟨(Nat.le_of_ble_eq_true rfl), (Nat.le_of_ble_eq_true rfl)⟩) (zV (ci := 5) (q0 := 0) hK hP hD rfl (wCl_0 G ad D_2)) rfl rfl hl.1 rfl (lv_room (Nat.le_of_ble_eq_true rfl)) dL_law_100 ⟨(Nat.le_of_ble_eq_true rfl), (Nat.le_of_ble_eq_true rfl)⟩) hP hD hS hA (fun H locs hP hD hS => ?_)
        refine lv_icmp_gt (tgt := 142) hx hb dL_law_103 (by decide) (fun c_11 => absurd ((t_lt (nI_toInt (n := (N1 8)) (by omega)) (nI_toInt (n := ((rfs N1) + (N1 7))) (by omega))).mp c_11) (by omega)) (fun c_11 => ?_)
        refine lv_aload_n hx hb dL_law_106 rfl (lv_at hl 2 rfl) ?_
        refine lv_iload hx hb dL_law_107 (lv_at hl 4 rfl) ?_
        refine lv_iconst (v := 3) hx hb dL_law_109 (by decide) ?_
        refine lv_ishr hx hb dL_law_110 ?_
        refine lv_bipush (v := 8) hx hb dL_law_111 (by decide) ?_
        refine z_callN (val := nI (lowN (v >>> (3 &&& 31)) 8)) (va_runS (As := [.int (v >>> (3 &&& 31)), .int 8]) (rest := [.ref ad.2.2.1]) ⟨hx, hb, hml, hown, hts⟩ (pL_low l G H.size (v >>> (3 &&& 31)) 8 (Nat.le_of_ble_eq_true rfl) (Nat.le_of_ble_eq_true rfl)) (va_cwS 2 hts gL_law_L_low rfl rfl rfl (by decide +kernel) ⟨(Nat.le_of_ble_eq_true rfl), (Nat.le_of_ble_eq_true rfl)⟩) (zS hK (zP_no hP) (zD_no hD)) rfl rfl hl.1 rfl (lv_room (Nat.le_of_ble_eq_true rfl)) dL_law_113 ⟨(Nat.le_of_ble_eq_true rfl), (Nat.le_of_ble_eq_true rfl)⟩) hP hD hS hA (fun H locs hP hD hS => ?_)
        have b_12 := lowN_lt (v := (v >>> (3 &&& 31))) (k := 8) (Nat.le_of_ble_eq_true rfl)
        refine lv_iload hx hb dL_law_116 (lv_at hl 4 rfl) ?_
        refine lv_iconst (v := 5) hx hb dL_law_118 (by decide) ?_
        refine lv_ishr hx hb dL_law_119 ?_
        refine lv_bipush (v := 16) hx hb dL_law_120 (by decide) ?_
        refine z_callN (val := nI (lowN (v >>> (5 &&& 31)) 16)) (va_runS (As := [.int (v >>> (5 &&& 31)), .int 16]) (rest := [.int (nI (lowN (v >>> (3 &&& 31)) 8)), .ref ad.2.2.1]) ⟨hx, hb, hml, hown, hts⟩ (pL_low l G H.size (v >>> (5 &&& 31)) 16 (Nat.le_of_ble_eq_true rfl) (Nat.le_of_ble_eq_true rfl)) (va_cwS 2 hts gL_law_L_low rfl rfl rfl (by decide +kernel) ⟨(Nat.le_of_ble_eq_true rfl), (Nat.le_of_ble_eq_true rfl)⟩) (zS hK (zP_no hP) (zD_no hD)) rfl rfl hl.1 rfl (lv_room (Nat.le_of_ble_eq_true rfl)) dL_law_122 ⟨(Nat.le_of_ble_eq_true rfl), (Nat.le_of_ble_eq_true rfl)⟩) hP hD hS hA (fun H locs hP hD hS => ?_)
        have b_13 := lowN_lt (v := (v >>> (5 &&& 31))) (k := 16) (Nat.le_of_ble_eq_true rfl)
        refine lv_iload hx hb dL_law_125 (lv_at hl 4 rfl) ?_
        refine lv_bipush (v := 9) hx hb dL_law_127 (by decide) ?_
        refine lv_ishr hx hb dL_law_129 ?_
        refine lv_iconst (v := 1) hx hb dL_law_130 (by decide) ?_
        refine lv_iand hx hb dL_law_131 ?_
        obtain ⟨t_14, ht_14, et_14⟩ := andN (v >>> (9 &&& 31)) (m := 1) 1 (by decide)
        refine z_top et_14 ?_
        refine z_callG (val := 1) (va_runS (As := [.ref ad.2.2.1, .int (nI (lowN (v >>> (3 &&& 31)) 8)), .int (nI (lowN (v >>> (5 &&& 31)) 16)), .int (nI t_14)]) (rest := []) ⟨hx, hb, hml, hown, hts⟩ (pL_areBitsSo l G H.size ad hJ1 (a9 := (lowN (v >>> (3 &&& 31)) 8)) (c9 := (lowN (v >>> (5 &&& 31)) 16)) (g9 := t_14) (by omega) (by omega) (by omega)) (va_cwS 4 hts gL_law_L_areBitsSo rfl rfl rfl (by decide +kernel) ⟨(Nat.le_of_ble_eq_true rfl), (Nat.le_of_ble_eq_true rfl)⟩) (zS hK hP hD) rfl rfl hl.1 rfl (lv_room (Nat.le_of_ble_eq_true rfl)) dL_law_132 ⟨(Nat.le_of_ble_eq_true rfl), (Nat.le_of_ble_eq_true rfl)⟩) hP hD hS hA (fun H locs hP hD hS => ?_)
        refine lv_if_eq (tgt := 142) hx hb dL_law_135 (by decide) (fun c_16 => absurd ((t_eq (show (1 : Int32).toInt = 1 by decide) (show (0 : Int32).toInt = 0 by decide)).mp c_16) (by omega)) (fun c_16 => ?_)
        refine lv_iconst (v := 1) hx hb dL_law_138 (by decide) ?_
        refine lv_goto (tgt := 143) hx hb dL_law_139 (by decide) ?_
        refine lv_istore (lv' := [(6, .int 1), (2, .int (nI (N1 2))), (0, .ref bs), (1, .ref ad.2.2.1), (3, .int (nI k)), (4, .int v), (5, .int v_2)]) hx hb dL_law_143 hl (by decide) rfl (fun ls hl => ?_)
        refine lv_iload hx hb dL_law_145 (lv_at hl 0 rfl) ?_
        refine lv_if_eq (tgt := 222) hx hb dL_law_147 (by decide) (fun c_17 => absurd ((t_eq (show (1 : Int32).toInt = 1 by decide) (show (0 : Int32).toInt = 0 by decide)).mp c_17) (by omega)) (fun c_17 => ?_)
        have M174 : ∀ (a9 : Nat) (H : Heap) (locs : List Loc) (ls : Array Slot), (a9 < 8) → va_P G.1 vwCl (wCl G ad D_2) H → va_D (fun z : Nat => s.heap.size ≤ z) (wCl G ad D_2) → va_S (fun z : Nat => s.heap.size ≤ z) s.heap H locs → lv_has ls 7 [(0, .ref bs), (1, .ref ad.2.2.1), (2, .int (nI (N1 2))), (3, .int (nI k)), (4, .int v)] → W p l e room_1 (s.setDrawn d_6) m #[Value.ref bs] below meth c H locs 100 2000 (lw_Z below #[Value.ref bs] s) (F0 m 174 ls [.int (nI a9), .ref ad.2.2.1]) := by
          intro a9 H locs ls ha9 hP hD hS hl
          refine lv_iload hx hb dL_law_174 (lv_at hl 4 rfl) ?_
          refine lv_iconst (v := 4) hx hb dL_law_176 (by decide) ?_
          refine lv_ishr hx hb dL_law_177 ?_
          refine lv_iconst (v := 3) hx hb dL_law_178 (by decide) ?_
          refine z_callN (val := nI (lowN (v >>> (4 &&& 31)) 3)) (va_runS (As := [.int (v >>> (4 &&& 31)), .int 3]) (rest := [.int (nI a9), .ref ad.2.2.1]) ⟨hx, hb, hml, hown, hts⟩ (pL_low l G H.size (v >>> (4 &&& 31)) 3 (Nat.le_of_ble_eq_true rfl) (Nat.le_of_ble_eq_true rfl)) (va_cwS 2 hts gL_law_L_low rfl rfl rfl (by decide +kernel) ⟨(Nat.le_of_ble_eq_true rfl), (Nat.le_of_ble_eq_true rfl)⟩) (zS hK (zP_no hP) (zD_no hD)) rfl rfl hl.1 rfl (lv_room (Nat.le_of_ble_eq_true rfl)) dL_law_179 ⟨(Nat.le_of_ble_eq_true rfl), (Nat.le_of_ble_eq_true rfl)⟩) hP hD hS hA (fun H locs hP hD hS => ?_)
          have b_18 := lowN_lt (v := (v >>> (4 &&& 31))) (k := 3) (Nat.le_of_ble_eq_true rfl)
          refine lv_iload hx hb dL_law_182 (lv_at hl 4 rfl) ?_
          refine lv_bipush (v := 7) hx hb dL_law_184 (by decide) ?_
          refine lv_ishr hx hb dL_law_186 ?_
          refine lv_iconst (v := 1) hx hb dL_law_187 (by decide) ?_
          refine lv_iand hx hb dL_law_188 ?_
          obtain ⟨u_19, hu_19, eu_19⟩ := andN (v >>> (7 &&& 31)) (m := 1) 1 (by decide)
          refine z_top eu_19 ?_
          refine lv_iconst (v := 1) hx hb dL_law_189 (by decide) ?_
          refine lv_iload hx hb dL_law_190 (lv_at hl 4 rfl) ?_
          refine lv_bipush (v := 8) hx hb dL_law_192 (by decide) ?_
          refine lv_ishr hx hb dL_law_194 ?_
          refine lv_bipush (v := 10) hx hb dL_law_195 (by decide) ?_
          refine z_callN (val := nI (lowN (v >>> (8 &&& 31)) 10)) (va_runS (As := [.int (v >>> (8 &&& 31)), .int 10]) (rest := [.int 1, .int (nI u_19), .int (nI (lowN (v >>> (4 &&& 31)) 3)), .int (nI a9), .ref ad.2.2.1]) ⟨hx, hb, hml, hown, hts⟩ (pL_low l G H.size (v >>> (8 &&& 31)) 10 (Nat.le_of_ble_eq_true rfl) (Nat.le_of_ble_eq_true rfl)) (va_cwS 2 hts gL_law_L_low rfl rfl rfl (by decide +kernel) ⟨(Nat.le_of_ble_eq_true rfl), (Nat.le_of_ble_eq_true rfl)⟩) (zS hK (zP_no hP) (zD_no hD)) rfl rfl hl.1 rfl (lv_room (Nat.le_of_ble_eq_true rfl)) dL_law_197 ⟨(Nat.le_of_ble_eq_true rfl), (Nat.le_of_ble_eq_true rfl)⟩) hP hD hS hA (fun H locs hP hD hS => ?_)
          have b_20 := lowN_lt (v := (v >>> (8 &&& 31))) (k := 10) (Nat.le_of_ble_eq_true rfl)
          refine lv_iadd hx hb dL_law_200 ?_
          refine z_top (show (1 : Int32) + nI (lowN (v >>> (8 &&& 31)) 10) = nI (1 + (lowN (v >>> (8 &&& 31)) 10)) from nI_add 1 (lowN (v >>> (8 &&& 31)) 10)) ?_
          refine z_callM (val := 1) (va_runS (As := [.ref ad.2.2.1, .int (nI a9), .int (nI (lowN (v >>> (4 &&& 31)) 3)), .int (nI u_19), .int (nI (1 + (lowN (v >>> (8 &&& 31)) 10)))]) (rest := []) ⟨hx, hb, hml, hown, hts⟩ (pL_isFrameSo l G H.size ad hJ1 (by omega) (a9 := a9) (c9 := (lowN (v >>> (4 &&& 31)) 3)) (g9 := u_19) (st := (1 + (lowN (v >>> (8 &&& 31)) 10))) (by omega) (by omega) (by omega) (by omega) (by omega)) (va_cwS 5 hts gL_law_L_isFrameSo rfl rfl rfl (by decide +kernel) ⟨(Nat.le_of_ble_eq_true rfl), (Nat.le_of_ble_eq_true rfl)⟩) (zS hK hP hD) rfl rfl hl.1 rfl (lv_room (Nat.le_of_ble_eq_true rfl)) dL_law_201 ⟨(Nat.le_of_ble_eq_true rfl), (Nat.le_of_ble_eq_true rfl)⟩) hP hD hS hA (fun D_21 H locs k_21 hP hD hS => ?_)
          refine lv_if_eq (tgt := 222) hx hb dL_law_204 (by decide) (fun c_22 => absurd ((t_eq (show (1 : Int32).toInt = 1 by decide) (show (0 : Int32).toInt = 0 by decide)).mp c_22) (by omega)) (fun c_22 => ?_)
          have M224 : ∀ (D9 : zDc) (H : Heap) (locs : List Loc) (ls : Array Slot), (J n1 D9 N1) → va_P G.1 vwCl (wCl G ad D9) H → va_D (fun z : Nat => s.heap.size ≤ z) (wCl G ad D9) → va_S (fun z : Nat => s.heap.size ≤ z) s.heap H locs → lv_has ls 7 [(0, .ref bs), (1, .ref ad.2.2.1), (2, .int (nI (N1 2))), (3, .int (nI k))] → W p l e room_1 (s.setDrawn d_6) m #[Value.ref bs] below meth c H locs 100 2000 (lw_Z below #[Value.ref bs] s) (F0 m 224 ls []) := by
            intro D9 H locs ls hJ9 hP hD hS hl
            refine lv_iinc (v := nI (k + 1)) (lv' := [(3, .int (nI (k + 1))), (0, .ref bs), (1, .ref ad.2.2.1), (2, .int (nI (N1 2)))]) hx hb dL_law_224 hl (k := 3) rfl (nI_1 k) (by decide) rfl (fun ls hl => ?_)
            refine lv_goto (tgt := 12) hx hb dL_law_227 (by decide) ?_
            exact ih (k + 1) (by omega) (by omega) D9 N1 n1 d_6 H _ _ hd_6 hJ9 (by omega) (by omega) hP hD hS (lv_sub hl [1, 2, 3, 0] rfl)
          refine lv_iload_n hx hb dL_law_207 rfl (lv_at hl 3 rfl) ?_
          refine lv_iconst (v := 3) hx hb dL_law_208 (by decide) ?_
          refine lv_irem hx hb dL_law_209 (by decide) ?_
          refine z_top (show (nI k) - (nI k) / (3 : Int32) * (3 : Int32) = nI (k % 3) from pk_rem (a := k) (d := 3) (by omega) (by decide) (by decide)) ?_
          refine lv_iconst (v := 2) hx hb dL_law_210 (by decide) ?_
          refine lv_icmp_ne (tgt := 224) hx hb dL_law_211 (by decide) (fun c_23 => ?_) (fun c_23 => ?_)
          · exact M224 D_21 H _ _ k_21 hP hD hS (lv_sub hl [0, 1, 2, 3] rfl)
          · refine lv_aload_n hx hb dL_law_214 rfl (lv_at hl 1 rfl) ?_
            refine lv_iload_n hx hb dL_law_215 rfl (lv_at hl 2 rfl) ?_
            refine z_callM (val := 1) (va_runS (As := [.ref ad.2.2.1, .int (nI (N1 2))]) (rest := []) ⟨hx, hb, hml, hown, hts⟩ (pL_areForecastsSo l G H.size ad k_21 (by omega)) (va_cwS 2 hts gL_law_L_areForecastsSo rfl rfl rfl (by decide +kernel) ⟨(Nat.le_of_ble_eq_true rfl), (Nat.le_of_ble_eq_true rfl)⟩) (zS hK hP hD) rfl rfl hl.1 rfl (lv_room (Nat.le_of_ble_eq_true rfl)) dL_law_216 ⟨(Nat.le_of_ble_eq_true rfl), (Nat.le_of_ble_eq_true rfl)⟩) hP hD hS hA (fun D_24 H locs k_24 hP hD hS => ?_)
            refine lv_if_ne (tgt := 224) hx hb dL_law_219 (by decide) (fun c_25 => ?_) (fun c_25 => absurd ((t_eq (show (1 : Int32).toInt = 1 by decide) (show (0 : Int32).toInt = 0 by decide)).mp c_25) (by omega))
            exact M224 D_24 H _ _ k_24 hP hD hS (lv_sub hl [0, 1, 2, 3] rfl)
        refine lv_aload_n hx hb dL_law_150 rfl (lv_at hl 3 rfl) ?_
        refine lv_iload hx hb dL_law_151 (lv_at hl 5 rfl) ?_
        refine lv_bipush (v := 11) hx hb dL_law_153 (by decide) ?_
        refine lv_ishr hx hb dL_law_155 ?_
        refine lv_iconst (v := 3) hx hb dL_law_156 (by decide) ?_
        refine lv_iand hx hb dL_law_157 ?_
        refine lv_if_ne (tgt := 173) hx hb dL_law_158 (by decide) (fun c_26 => ?_) (fun c_26 => ?_)
        · refine lv_iload_n hx hb dL_law_173 rfl (lv_at hl 1 rfl) ?_
          exact M174 (N1 2) H _ _ (by omega) hP hD hS (lv_sub hl [2, 3, 1, 4, 5] rfl)
        · refine lv_iload hx hb dL_law_161 (lv_at hl 5 rfl) ?_
          refine lv_iconst (v := 4) hx hb dL_law_163 (by decide) ?_
          refine lv_ishr hx hb dL_law_164 ?_
          refine lv_bipush (v := 8) hx hb dL_law_165 (by decide) ?_
          refine z_callN (val := nI (lowN (v >>> (4 &&& 31)) 8)) (va_runS (As := [.int (v >>> (4 &&& 31)), .int 8]) (rest := [.ref ad.2.2.1]) ⟨hx, hb, hml, hown, hts⟩ (pL_low l G H.size (v >>> (4 &&& 31)) 8 (Nat.le_of_ble_eq_true rfl) (Nat.le_of_ble_eq_true rfl)) (va_cwS 2 hts gL_law_L_low rfl rfl rfl (by decide +kernel) ⟨(Nat.le_of_ble_eq_true rfl), (Nat.le_of_ble_eq_true rfl)⟩) (zS hK (zP_no hP) (zD_no hD)) rfl rfl hl.1 rfl (lv_room (Nat.le_of_ble_eq_true rfl)) dL_law_167 ⟨(Nat.le_of_ble_eq_true rfl), (Nat.le_of_ble_eq_true rfl)⟩) hP hD hS hA (fun H locs hP hD hS => ?_)
          have b_27 := lowN_lt (v := (v >>> (4 &&& 31))) (k := 8) (Nat.le_of_ble_eq_true rfl)
          refine lv_goto (tgt := 174) hx hb dL_law_170 (by decide) ?_
          exact M174 (lowN (v >>> (4 &&& 31)) 8) H _ _ (by omega) hP hD hS (lv_sub hl [2, 3, 1, 4, 5] rfl)
      refine lv_iload hx hb dL_law_33 (lv_at hl 1 rfl) ?_
      refine lv_bipush (v := 15) hx hb dL_law_35 (by decide) ?_
      refine lv_iand hx hb dL_law_37 ?_
      refine lv_bipush (v := 13) hx hb dL_law_38 (by decide) ?_
      refine lv_icmp_ne (tgt := 64) hx hb dL_law_40 (by decide) (fun c_28 => ?_) (fun c_28 => ?_)
      · refine lv_iload_n hx hb dL_law_64 rfl (lv_at hl 4 rfl) ?_
        refine z_top (show nI (N 2) = nI (N1 2) by rw [ga]; unfold adN; rw [if_neg (fun z => c_28 z.1)]) ?_
        exact M65 H _ _ hP hD hS (lv_sub hl [2, 3, 5, 1, 0] rfl)
      · refine lv_iload hx hb dL_law_43 (lv_at hl 1 rfl) ?_
        refine lv_iconst (v := 4) hx hb dL_law_45 (by decide) ?_
        refine lv_ishr hx hb dL_law_46 ?_
        refine lv_iconst (v := 3) hx hb dL_law_47 (by decide) ?_
        refine lv_iand hx hb dL_law_48 ?_
        refine lv_if_ne (tgt := 64) hx hb dL_law_49 (by decide) (fun c_29 => ?_) (fun c_29 => ?_)
        · refine lv_iload_n hx hb dL_law_64 rfl (lv_at hl 4 rfl) ?_
          refine z_top (show nI (N 2) = nI (N1 2) by rw [ga]; unfold adN; rw [if_neg (fun z => c_29 z.2)]) ?_
          exact M65 H _ _ hP hD hS (lv_sub hl [2, 3, 5, 1, 0] rfl)
        · refine lv_iload hx hb dL_law_52 (lv_at hl 1 rfl) ?_
          refine lv_bipush (v := 6) hx hb dL_law_54 (by decide) ?_
          refine lv_ishr hx hb dL_law_56 ?_
          refine lv_iconst (v := 3) hx hb dL_law_57 (by decide) ?_
          refine z_callN (val := nI (lowN (v >>> (6 &&& 31)) 3)) (va_runS (As := [.int (v >>> (6 &&& 31)), .int 3]) (rest := []) ⟨hx, hb, hml, hown, hts⟩ (pL_low l G H.size (v >>> (6 &&& 31)) 3 (Nat.le_of_ble_eq_true rfl) (Nat.le_of_ble_eq_true rfl)) (va_cwS 2 hts gL_law_L_low rfl rfl rfl (by decide +kernel) ⟨(Nat.le_of_ble_eq_true rfl), (Nat.le_of_ble_eq_true rfl)⟩) (zS hK (zP_no hP) (zD_no hD)) rfl rfl hl.1 rfl (lv_room (Nat.le_of_ble_eq_true rfl)) dL_law_58 ⟨(Nat.le_of_ble_eq_true rfl), (Nat.le_of_ble_eq_true rfl)⟩) hP hD hS hA (fun H locs hP hD hS => ?_)
          have b_30 := lowN_lt (v := (v >>> (6 &&& 31))) (k := 3) (Nat.le_of_ble_eq_true rfl)
          refine lv_goto (tgt := 65) hx hb dL_law_61 (by decide) ?_
          refine z_top (show nI (lowN (v >>> (6 &&& 31)) 3) = nI (N1 2) by rw [ga]; unfold adN; rw [if_pos ⟨c_28, c_29⟩]) ?_
          exact M65 H _ _ hP hD hS (lv_sub hl [2, 3, 5, 1, 0] rfl)
end LOOP
