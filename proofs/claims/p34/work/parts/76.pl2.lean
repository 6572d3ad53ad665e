section PL2
theorem sh_val {d o : Nat} (h : 3 ≤ d + o) : nI d + (nI o - 3) = nI (d + o - 3) := by
  have e : nI d + (nI o - 3) = nI d + nI o - 3 := by
    rw [Int32.sub_eq_add_neg, Int32.sub_eq_add_neg, Int32.add_assoc]
  rw [e, nI_add]
  exact pk_sub (a := d + o) (b := 3) h
theorem sh_m3 : (0 : Int32) = nI 3 - 3 := by decide
theorem ge_nI {k : Nat} (h : k ≤ 2000000000) : -1 ≤ nI k := (t_le (show (-1 : Int32).toInt = -1 by decide) (nI_toInt (n := k) (by omega))).mpr (by omega)
theorem ge_m1 {k : Nat} (h : k ≤ 2000000000) : -1 ≤ nI k - 1 := by
  rcases s6_cases (x := nI k - 1) rfl with ⟨-, e⟩ | ⟨j, e, e2⟩
  · rw [e]; decide
  · rw [e2]; exact ge_nI (by omega)
set_option maxHeartbeats 4000000 in
set_option maxRecDepth 100000 in
theorem pL_shine (l : Launch) (G : zG) (sz : Nat) (ad : zAd) {D : zDc} {N : zN} {n : Nat} (h : J n D N) (hn : n < 8900) (h60 : N 60 = 0) (v : Int32) : zMv l yL_shine wsL_shine ({ frames := 5, cells := 0, slots := 0, locals := 144 } : Room) [.ref ad.2.2.1, .int v] G (wCl G ad D) (fun (D' : zDc) => ∃ (n' : Nat) (N' : zN), n' ≤ n + 27 ∧ J n' D' N' ∧ N' 2 = N 2 ∧ N' 8 = N 8) (fun D' => wCl G ad D') sz 0 0 := by
  refine zMv_of (cc := cL_shine) (maxL := 9) (ret := none) (by decide) rfl (Nat.le_of_ble_eq_true rfl) ?_
  intro p e s m args below meth c A ls hx hb hr hml hts hown hlocks hnm hK hP hD hAe hS hA hl hsz
  have hown : s.vm.findClass RL = some m.cls := hown
  have hl : lv_has ls 9 [(0, .ref ad.2.2.1), (1, .int v)] := hl
  refine lv_iload_n hx hb dL_shine_0 rfl (lv_at hl 1 rfl) ?_
  refine lv_iconst (v := 4) hx hb dL_shine_1 (by decide) ?_
  refine z_callN (val := nI (lowN v 4)) (va_runS (As := [.int v, .int 4]) (rest := []) ⟨hx, hb, hml, hown, hts⟩ (pL_low l G s.heap.size v 4 (Nat.le_of_ble_eq_true rfl) (Nat.le_of_ble_eq_true rfl)) (va_cwS 2 hts gL_shine_L_low rfl rfl rfl (by decide +kernel) ⟨(Nat.le_of_ble_eq_true rfl), (Nat.le_of_ble_eq_true rfl)⟩) (zS hK (zP_no hP) (zD_no hD)) rfl rfl hl.1 rfl (lv_room (Nat.le_of_ble_eq_true rfl)) dL_shine_2 ⟨(Nat.le_of_ble_eq_true rfl), (Nat.le_of_ble_eq_true rfl)⟩) hP hD hS hA (fun H locs hP hD hS => ?_)
  have b_1 := lowN_lt (v := v) (k := 4) (Nat.le_of_ble_eq_true rfl)
  refine lv_istore_n (lv' := [(2, .int (nI (lowN v 4))), (0, .ref ad.2.2.1), (1, .int v)]) hx hb dL_shine_5 rfl hl (by decide) rfl (fun ls hl => ?_)
  have M36 : ∀ (mm : Nat) (H : Heap) (locs : List Loc) (ls : Array Slot), (1 ≤ mm) → (mm ≤ 27) → va_P G.1 vwCl (wCl G ad D) H → va_D A (wCl G ad D) → va_S A s.heap H locs → lv_has ls 9 [(0, .ref ad.2.2.1), (1, .int v), (2, .int (nI (lowN v 4)))] → W p l e ({ frames := 5, cells := 0, slots := 0, locals := 144 } : Room) s m args below meth c H locs 0 0 (MQ below (zQv G (fun (D' : zDc) => ∃ (n' : Nat) (N' : zN), n' ≤ n + 27 ∧ J n' D' N' ∧ N' 2 = N 2 ∧ N' 8 = N 8) (fun D' => wCl G ad D') A) args s 0 0 A) (F0 m 36 ls [.int (nI mm)]) := by
    intro mm H locs ls m1 m2 hP hD hS hl
    refine lv_istore_n (lv' := [(3, .int (nI mm)), (0, .ref ad.2.2.1), (1, .int v), (2, .int (nI (lowN v 4)))]) hx hb dL_shine_36 rfl hl (by decide) rfl (fun ls hl => ?_)
    refine lv_iconst (v := 0) hx hb dL_shine_37 (by decide) ?_
    refine lv_istore (lv' := [(4, .int 0), (3, .int (nI mm)), (0, .ref ad.2.2.1), (1, .int v), (2, .int (nI (lowN v 4)))]) hx hb dL_shine_38 hl (by decide) rfl (fun ls hl => ?_)
    refine lv_iconst (v := 0) hx hb dL_shine_40 (by decide) ?_
    refine lv_istore (lv' := [(5, .int 0), (4, .int 0), (3, .int (nI mm)), (0, .ref ad.2.2.1), (1, .int v), (2, .int (nI (lowN v 4)))]) hx hb dL_shine_41 hl (by decide) rfl (fun ls hl => ?_)
    have L43 : ∀ (n9 k : Nat) (D1 : zDc) (n1 : Nat) (N1 : zN) (x4 : Int32), mm < k + n9 → J n1 D1 N1 → N1 60 = k → N1 2 = N 2 → N1 8 = N 8 → n1 = n + k → k ≤ mm → ∀ (H : Heap) (locs : List Loc) (ls : Array Slot), va_P G.1 vwCl (wCl G ad D1) H → va_D A (wCl G ad D1) → va_S A s.heap H locs → lv_has ls 9 [(0, .ref ad.2.2.1), (1, .int v), (2, .int (nI (lowN v 4))), (3, .int (nI mm)), (4, .int x4), (5, .int (nI k))] → W p l e ({ frames := 5, cells := 0, slots := 0, locals := 144 } : Room) s m args below meth c H locs 0 0 (MQ below (zQv G (fun (D' : zDc) => ∃ (n' : Nat) (N' : zN), n' ≤ n + 27 ∧ J n' D' N' ∧ N' 2 = N 2 ∧ N' 8 = N 8) (fun D' => wCl G ad D') A) args s 0 0 A) (F0 m 43 ls []) := by
      intro n9
      induction n9 with
      | zero =>
        intro k D1 n1 N1 x4 z _ _ _ _ _ hk
        exact absurd z (by omega)
      | succ n9 ih =>
        intro k D1 n1 N1 x4 hz hJ g60 g2 g8 gn hk H locs ls hP hD hS hl
        refine lv_iload hx hb dL_shine_43 (lv_at hl 5 rfl) ?_
        refine lv_iload_n hx hb dL_shine_45 rfl (lv_at hl 3 rfl) ?_
        refine lv_icmp_ge (tgt := 173) hx hb dL_shine_46 (by decide) (fun c_2 => ?_) (fun c_2 => ?_)
        · exact z_vret hx hb hr hlocks D1 hP hD hS (Nat.le_of_ble_eq_true rfl) (Nat.le_of_ble_eq_true rfl) dL_shine_173 ⟨n1, N1, by omega, hJ, g2, g8⟩
        · have hlt : k < mm := Nat.not_le.mp (fun z => c_2 (nI_le z (by omega)))
          have P162 : ∀ (wi : Nat) (du : Nat) (x8 : Int32) (y : Nat) (H : Heap) (locs : List Loc) (ls : Array Slot), (1 ≤ y) → (y ≤ 40) → va_P G.1 vwCl (wCl G ad D1) H → va_D A (wCl G ad D1) → va_S A s.heap H locs → lv_has ls 9 [(0, .ref ad.2.2.1), (1, .int v), (2, .int (nI (lowN v 4))), (3, .int (nI mm)), (4, .int x4), (5, .int (nI k)), (6, .int (nI wi)), (7, .int (nI du)), (8, .int x8)] → W p l e ({ frames := 5, cells := 0, slots := 0, locals := 144 } : Room) s m args below meth c H locs 0 0 (MQ below (zQv G (fun (D' : zDc) => ∃ (n' : Nat) (N' : zN), n' ≤ n + 27 ∧ J n' D' N' ∧ N' 2 = N 2 ∧ N' 8 = N 8) (fun D' => wCl G ad D') A) args s 0 0 A) (F0 m 162 ls [.int (nI y), .ref ad.2.2.1]) := by
            intro wi du x8 y H locs ls y1 y2 hP hD hS hl
            refine z_callM (val := nI (N1 60 + 1)) (va_runV (As := [.int (nI y)]) (rest := []) ⟨hx, hb, hml, hown, hts⟩ (pC_shine l G H.size ad hJ (by omega) (y9 := y) y1 y2 (by omega)) (cwV 1 hts gL_shine_X5_shine rfl rfl rfl (by decide +kernel) ⟨(Nat.le_of_ble_eq_true rfl), (Nat.le_of_ble_eq_true rfl)⟩) (zV (ci := 5) (q0 := 0) hK hP hD rfl (wCl_0 G ad D1)) rfl rfl hl.1 rfl (lv_room (Nat.le_of_ble_eq_true rfl)) dL_shine_162 ⟨(Nat.le_of_ble_eq_true rfl), (Nat.le_of_ble_eq_true rfl)⟩) hP hD hS hA (fun D_3 H locs k_3 hP hD hS => ?_)
            refine lv_istore (lv' := [(4, .int (nI (N1 60 + 1))), (0, .ref ad.2.2.1), (1, .int v), (2, .int (nI (lowN v 4))), (3, .int (nI mm)), (5, .int (nI k)), (6, .int (nI wi)), (7, .int (nI du)), (8, .int x8)]) hx hb dL_shine_165 hl (by decide) rfl (fun ls hl => ?_)
            refine lv_iinc (v := nI (k + 1)) (lv' := [(5, .int (nI (k + 1))), (4, .int (nI (N1 60 + 1))), (0, .ref ad.2.2.1), (1, .int v), (2, .int (nI (lowN v 4))), (3, .int (nI mm)), (6, .int (nI wi)), (7, .int (nI du)), (8, .int x8)]) hx hb dL_shine_167 hl (k := 5) rfl (nI_1 k) (by decide) rfl (fun ls hl => ?_)
            refine lv_goto (tgt := 43) hx hb dL_shine_170 (by decide) ?_
            exact ih (k + 1) D_3 (n1 + 1) (va_up N1 60 (N1 60 + 1)) (nI (N1 60 + 1)) (by omega) k_3 (va_upS.trans (by omega)) ((va_upN (by omega)).trans g2) ((va_upN (by omega)).trans g8) (by omega) (by omega) _ _ _ hP hD hS (lv_sub hl [2, 3, 4, 5, 1, 0] rfl)
          have P141 : ∀ (wi : Nat) (du : Nat) (o : Nat) (H : Heap) (locs : List Loc) (ls : Array Slot), (4 ≤ du) → (du ≤ 16) → (o < 12) → va_P G.1 vwCl (wCl G ad D1) H → va_D A (wCl G ad D1) → va_S A s.heap H locs → lv_has ls 9 [(0, .ref ad.2.2.1), (1, .int v), (2, .int (nI (lowN v 4))), (3, .int (nI mm)), (4, .int x4), (5, .int (nI k)), (6, .int (nI wi)), (7, .int (nI du))] → W p l e ({ frames := 5, cells := 0, slots := 0, locals := 144 } : Room) s m args below meth c H locs 0 0 (MQ below (zQv G (fun (D' : zDc) => ∃ (n' : Nat) (N' : zN), n' ≤ n + 27 ∧ J n' D' N' ∧ N' 2 = N 2 ∧ N' 8 = N 8) (fun D' => wCl G ad D') A) args s 0 0 A) (F0 m 141 ls [.int (nI o - 3)]) := by
            intro wi du o H locs ls d1 d2 o1 hP hD hS hl
            refine lv_istore (lv' := [(8, .int (nI o - 3)), (0, .ref ad.2.2.1), (1, .int v), (2, .int (nI (lowN v 4))), (3, .int (nI mm)), (4, .int x4), (5, .int (nI k)), (6, .int (nI wi)), (7, .int (nI du))]) hx hb dL_shine_141 hl (by decide) rfl (fun ls hl => ?_)
            refine lv_aload_n hx hb dL_shine_143 rfl (lv_at hl 1 rfl) ?_
            refine lv_iload hx hb dL_shine_144 (lv_at hl 8 rfl) ?_
            refine lv_iload hx hb dL_shine_146 (lv_at hl 0 rfl) ?_
            refine lv_iadd hx hb dL_shine_148 ?_
            refine z_top (sh_val (d := du) (o := o) (by omega)) ?_
            refine lv_iconst (v := 1) hx hb dL_shine_149 (by decide) ?_
            refine lv_icmp_ge (tgt := 157) hx hb dL_shine_150 (by decide) (fun c_4 => ?_) (fun c_4 => absurd ((t_le (show (1 : Int32).toInt = 1 by decide) (nI_toInt (n := (du + o - 3)) (by omega))).mpr (by omega)) c_4)
            refine lv_iload hx hb dL_shine_157 (lv_at hl 8 rfl) ?_
            refine lv_iload hx hb dL_shine_159 (lv_at hl 0 rfl) ?_
            refine lv_iadd hx hb dL_shine_161 ?_
            refine z_top (sh_val (d := du) (o := o) (by omega)) ?_
            exact P162 wi du (nI o - 3) (du + o - 3) H _ _ (by omega) (by omega) hP hD hS (lv_sub hl [1, 2, 3, 4, 5, 6, 7, 8, 0] rfl)
          have P111 : ∀ (wi : Nat) (du : Nat) (H : Heap) (locs : List Loc) (ls : Array Slot), (4 ≤ du) → (du ≤ 16) → va_P G.1 vwCl (wCl G ad D1) H → va_D A (wCl G ad D1) → va_S A s.heap H locs → lv_has ls 9 [(0, .ref ad.2.2.1), (1, .int v), (2, .int (nI (lowN v 4))), (3, .int (nI mm)), (4, .int x4), (5, .int (nI k)), (6, .int (nI wi))] → W p l e ({ frames := 5, cells := 0, slots := 0, locals := 144 } : Room) s m args below meth c H locs 0 0 (MQ below (zQv G (fun (D' : zDc) => ∃ (n' : Nat) (N' : zN), n' ≤ n + 27 ∧ J n' D' N' ∧ N' 2 = N 2 ∧ N' 8 = N 8) (fun D' => wCl G ad D') A) args s 0 0 A) (F0 m 111 ls [.int (nI du)]) := by
            intro wi du H locs ls d1 d2 hP hD hS hl
            refine lv_istore (lv' := [(7, .int (nI du)), (0, .ref ad.2.2.1), (1, .int v), (2, .int (nI (lowN v 4))), (3, .int (nI mm)), (4, .int x4), (5, .int (nI k)), (6, .int (nI wi))]) hx hb dL_shine_111 hl (by decide) rfl (fun ls hl => ?_)
            refine lv_iload hx hb dL_shine_113 (lv_at hl 6 rfl) ?_
            refine lv_iload_n hx hb dL_shine_115 rfl (lv_at hl 2 rfl) ?_
            refine lv_iconst (v := 5) hx hb dL_shine_116 (by decide) ?_
            refine lv_ishr hx hb dL_shine_117 ?_
            refine lv_bipush (v := 21) hx hb dL_shine_118 (by decide) ?_
            refine z_callN (val := nI (lowN (v >>> (5 &&& 31)) 21)) (va_runS (As := [.int (v >>> (5 &&& 31)), .int 21]) (rest := [.int (nI k)]) ⟨hx, hb, hml, hown, hts⟩ (pL_low l G H.size (v >>> (5 &&& 31)) 21 (Nat.le_of_ble_eq_true rfl) (Nat.le_of_ble_eq_true rfl)) (va_cwS 2 hts gL_shine_L_low rfl rfl rfl (by decide +kernel) ⟨(Nat.le_of_ble_eq_true rfl), (Nat.le_of_ble_eq_true rfl)⟩) (zS hK (zP_no hP) (zD_no hD)) rfl rfl hl.1 rfl (lv_room (Nat.le_of_ble_eq_true rfl)) dL_shine_120 ⟨(Nat.le_of_ble_eq_true rfl), (Nat.le_of_ble_eq_true rfl)⟩) hP hD hS hA (fun H locs hP hD hS => ?_)
            have b_5 := lowN_lt (v := (v >>> (5 &&& 31))) (k := 21) (Nat.le_of_ble_eq_true rfl)
            refine lv_icmp_ne (tgt := 140) hx hb dL_shine_123 (by decide) (fun c_6 => ?_) (fun c_6 => ?_)
            · refine lv_iconst (v := 0) hx hb dL_shine_140 (by decide) ?_
              refine z_top sh_m3 ?_
              exact P141 wi du 3 H _ _ (by omega) (by omega) (by omega) hP hD hS (lv_sub hl [1, 2, 3, 4, 5, 6, 7, 0] rfl)
            · refine lv_iload_n hx hb dL_shine_126 rfl (lv_at hl 2 rfl) ?_
              refine lv_bipush (v := 9) hx hb dL_shine_127 (by decide) ?_
              refine lv_ishr hx hb dL_shine_129 ?_
              refine lv_bipush (v := 12) hx hb dL_shine_130 (by decide) ?_
              refine z_callN (val := nI (lowN (v >>> (9 &&& 31)) 12)) (va_runS (As := [.int (v >>> (9 &&& 31)), .int 12]) (rest := []) ⟨hx, hb, hml, hown, hts⟩ (pL_low l G H.size (v >>> (9 &&& 31)) 12 (Nat.le_of_ble_eq_true rfl) (Nat.le_of_ble_eq_true rfl)) (va_cwS 2 hts gL_shine_L_low rfl rfl rfl (by decide +kernel) ⟨(Nat.le_of_ble_eq_true rfl), (Nat.le_of_ble_eq_true rfl)⟩) (zS hK (zP_no hP) (zD_no hD)) rfl rfl hl.1 rfl (lv_room (Nat.le_of_ble_eq_true rfl)) dL_shine_132 ⟨(Nat.le_of_ble_eq_true rfl), (Nat.le_of_ble_eq_true rfl)⟩) hP hD hS hA (fun H locs hP hD hS => ?_)
              have b_7 := lowN_lt (v := (v >>> (9 &&& 31))) (k := 12) (Nat.le_of_ble_eq_true rfl)
              refine lv_iconst (v := 3) hx hb dL_shine_135 (by decide) ?_
              refine lv_isub hx hb dL_shine_136 ?_
              refine lv_goto (tgt := 141) hx hb dL_shine_137 (by decide) ?_
              exact P141 wi du (lowN (v >>> (9 &&& 31)) 12) H _ _ (by omega) (by omega) (by omega) hP hD hS (lv_sub hl [1, 2, 3, 4, 5, 6, 7, 0] rfl)
          have P78 : ∀ (wi : Nat) (H : Heap) (locs : List Loc) (ls : Array Slot), (4 ≤ wi) → (wi ≤ 12) → va_P G.1 vwCl (wCl G ad D1) H → va_D A (wCl G ad D1) → va_S A s.heap H locs → lv_has ls 9 [(0, .ref ad.2.2.1), (1, .int v), (2, .int (nI (lowN v 4))), (3, .int (nI mm)), (4, .int x4), (5, .int (nI k))] → W p l e ({ frames := 5, cells := 0, slots := 0, locals := 144 } : Room) s m args below meth c H locs 0 0 (MQ below (zQv G (fun (D' : zDc) => ∃ (n' : Nat) (N' : zN), n' ≤ n + 27 ∧ J n' D' N' ∧ N' 2 = N 2 ∧ N' 8 = N 8) (fun D' => wCl G ad D') A) args s 0 0 A) (F0 m 78 ls [.int (nI wi)]) := by
            intro wi H locs ls w1 w2 hP hD hS hl
            refine lv_istore (lv' := [(6, .int (nI wi)), (0, .ref ad.2.2.1), (1, .int v), (2, .int (nI (lowN v 4))), (3, .int (nI mm)), (4, .int x4), (5, .int (nI k))]) hx hb dL_shine_78 hl (by decide) rfl (fun ls hl => ?_)
            refine lv_iload hx hb dL_shine_80 (lv_at hl 6 rfl) ?_
            refine lv_if_ne (tgt := 90) hx hb dL_shine_82 (by decide) (fun c_8 => ?_) (fun c_8 => ?_)
            · refine lv_iload hx hb dL_shine_90 (lv_at hl 6 rfl) ?_
              refine lv_iconst (v := 2) hx hb dL_shine_92 (by decide) ?_
              refine lv_irem hx hb dL_shine_93 (by decide) ?_
              refine z_top (show (nI k) - (nI k) / (2 : Int32) * (2 : Int32) = nI (k % 2) from pk_rem (a := k) (d := 2) (by omega) (by decide) (by decide)) ?_
              refine lv_if_ne (tgt := 101) hx hb dL_shine_94 (by decide) (fun c_9 => ?_) (fun c_9 => ?_)
              · refine lv_iload_n hx hb dL_shine_101 rfl (lv_at hl 3 rfl) ?_
                refine lv_if_ne (tgt := 109) hx hb dL_shine_102 (by decide) (fun c_10 => ?_) (fun c_10 => ?_)
                · refine lv_iload hx hb dL_shine_109 (lv_at hl 0 rfl) ?_
                  exact P111 wi wi H _ _ (by omega) (by omega) hP hD hS (lv_sub hl [1, 2, 3, 4, 5, 6, 0] rfl)
                · refine lv_iconst (v := 4) hx hb dL_shine_105 (by decide) ?_
                  refine lv_goto (tgt := 111) hx hb dL_shine_106 (by decide) ?_
                  exact P111 wi 4 H _ _ (by omega) (by omega) hP hD hS (lv_sub hl [1, 2, 3, 4, 5, 6, 0] rfl)
              · refine lv_iconst (v := 4) hx hb dL_shine_97 (by decide) ?_
                refine lv_goto (tgt := 111) hx hb dL_shine_98 (by decide) ?_
                exact P111 wi 4 H _ _ (by omega) (by omega) hP hD hS (lv_sub hl [1, 2, 3, 4, 5, 6, 0] rfl)
            · refine lv_bipush (v := 16) hx hb dL_shine_85 (by decide) ?_
              refine lv_goto (tgt := 111) hx hb dL_shine_87 (by decide) ?_
              exact P111 wi 16 H _ _ (by omega) (by omega) hP hD hS (lv_sub hl [1, 2, 3, 4, 5, 6, 0] rfl)
          refine lv_iload hx hb dL_shine_49 (lv_at hl 5 rfl) ?_
          refine lv_iconst (v := 1) hx hb dL_shine_51 (by decide) ?_
          refine lv_icmp_ne (tgt := 60) hx hb dL_shine_52 (by decide) (fun c_11 => ?_) (fun c_11 => ?_)
          · refine lv_iload_n hx hb dL_shine_60 rfl (lv_at hl 1 rfl) ?_
            refine lv_iload hx hb dL_shine_61 (lv_at hl 5 rfl) ?_
            refine lv_bipush (v := 13) hx hb dL_shine_63 (by decide) ?_
            refine lv_irem hx hb dL_shine_65 (by decide) ?_
            refine z_top (show (nI k) - (nI k) / (13 : Int32) * (13 : Int32) = nI (k % 13) from pk_rem (a := k) (d := 13) (by omega) (by decide) (by decide)) ?_
            refine lv_ishr hx hb dL_shine_66 ?_
            refine lv_iconst (v := 1) hx hb dL_shine_67 (by decide) ?_
            refine lv_iand hx hb dL_shine_68 ?_
            refine lv_if_ne (tgt := 76) hx hb dL_shine_69 (by decide) (fun c_12 => ?_) (fun c_12 => ?_)
            · refine lv_bipush (v := 12) hx hb dL_shine_76 (by decide) ?_
              exact P78 12 H _ _ (by omega) (by omega) hP hD hS (lv_sub hl [0, 1, 2, 3, 4, 5] rfl)
            · refine lv_iconst (v := 4) hx hb dL_shine_72 (by decide) ?_
              refine lv_goto (tgt := 78) hx hb dL_shine_73 (by decide) ?_
              exact P78 4 H _ _ (by omega) (by omega) hP hD hS (lv_sub hl [0, 1, 2, 3, 4, 5] rfl)
          · refine lv_bipush (v := 8) hx hb dL_shine_55 (by decide) ?_
            refine lv_goto (tgt := 78) hx hb dL_shine_57 (by decide) ?_
            exact P78 8 H _ _ (by omega) (by omega) hP hD hS (lv_sub hl [0, 1, 2, 3, 4, 5] rfl)
    exact L43 (mm + 1) 0 D n N 0 (by omega) h h60 rfl rfl rfl (by omega) _ _ _ hP hD hS (lv_sub hl [3, 4, 5, 2, 1, 0] rfl)
  refine lv_iload_n hx hb dL_shine_6 rfl (lv_at hl 0 rfl) ?_
  refine lv_if_ne (tgt := 14) hx hb dL_shine_7 (by decide) (fun c_13 => ?_) (fun c_13 => ?_)
  · refine lv_iload_n hx hb dL_shine_14 rfl (lv_at hl 0 rfl) ?_
    refine lv_iconst (v := 1) hx hb dL_shine_15 (by decide) ?_
    refine lv_icmp_ne (tgt := 34) hx hb dL_shine_16 (by decide) (fun c_14 => ?_) (fun c_14 => ?_)
    · refine lv_bipush (v := 21) hx hb dL_shine_34 (by decide) ?_
      exact M36 21 H _ _ (by omega) (by omega) hP hD hS (lv_sub hl [1, 2, 0] rfl)
    · refine lv_iconst (v := 1) hx hb dL_shine_19 (by decide) ?_
      refine lv_iconst (v := 2) hx hb dL_shine_20 (by decide) ?_
      refine lv_iload_n hx hb dL_shine_21 rfl (lv_at hl 2 rfl) ?_
      refine lv_iconst (v := 2) hx hb dL_shine_22 (by decide) ?_
      refine lv_ishr hx hb dL_shine_23 ?_
      refine lv_bipush (v := 14) hx hb dL_shine_24 (by decide) ?_
      refine z_callN (val := nI (lowN (v >>> (2 &&& 31)) 14)) (va_runS (As := [.int (v >>> (2 &&& 31)), .int 14]) (rest := [.int 2, .int 1]) ⟨hx, hb, hml, hown, hts⟩ (pL_low l G H.size (v >>> (2 &&& 31)) 14 (Nat.le_of_ble_eq_true rfl) (Nat.le_of_ble_eq_true rfl)) (va_cwS 2 hts gL_shine_L_low rfl rfl rfl (by decide +kernel) ⟨(Nat.le_of_ble_eq_true rfl), (Nat.le_of_ble_eq_true rfl)⟩) (zS hK (zP_no hP) (zD_no hD)) rfl rfl hl.1 rfl (lv_room (Nat.le_of_ble_eq_true rfl)) dL_shine_26 ⟨(Nat.le_of_ble_eq_true rfl), (Nat.le_of_ble_eq_true rfl)⟩) hP hD hS hA (fun H locs hP hD hS => ?_)
      have b_15 := lowN_lt (v := (v >>> (2 &&& 31))) (k := 14) (Nat.le_of_ble_eq_true rfl)
      refine lv_imul hx hb dL_shine_29 ?_
      refine z_top (show (2 : Int32) * nI (lowN (v >>> (2 &&& 31)) 14) = nI (2 * (lowN (v >>> (2 &&& 31)) 14)) from pk_mul 2 (lowN (v >>> (2 &&& 31)) 14)) ?_
      refine lv_iadd hx hb dL_shine_30 ?_
      refine z_top (show (1 : Int32) + nI (2 * (lowN (v >>> (2 &&& 31)) 14)) = nI (1 + (2 * (lowN (v >>> (2 &&& 31)) 14))) from nI_add 1 (2 * (lowN (v >>> (2 &&& 31)) 14))) ?_
      refine lv_goto (tgt := 36) hx hb dL_shine_31 (by decide) ?_
      exact M36 (1 + (2 * (lowN (v >>> (2 &&& 31)) 14))) H _ _ (by omega) (by omega) hP hD hS (lv_sub hl [1, 2, 0] rfl)
  · refine lv_iconst (v := 3) hx hb dL_shine_10 (by decide) ?_
    refine lv_goto (tgt := 36) hx hb dL_shine_11 (by decide) ?_
    exact M36 3 H _ _ (by omega) (by omega) hP hD hS (lv_sub hl [1, 2, 0] rfl)
end PL2
