section PL3
section
variable {p : Program} {l : Launch} {e : Env} {R0 : Room} {s : State} {m : MethodId} {args : Array Value} {below : List Frame} {meth : Method} {c : Code} {H : Heap} {locs : List Loc} {cells slots : Nat} {Q : State → Prop}
variable {pc : Nat} {ls : Array Slot} {rest st0 : List Value} {G : zG} {A : Nat → Prop} {R C : va_W} {H0 : Heap} {mc ms : Nat} {a : Array Value}
theorem z_callvR {S : Type} {post : S → Prop} {w1 : S → va_W} (hr : va_Run p l e R0 s m args below meth c H locs cells slots mc ms (F0 m pc ls st0) rest (va_Qv post (fun u t => va_P G.1 vwCl (w1 u) t.heap ∧ va_D (va_A C H.size) (w1 u)) (va_A C H.size) a) (va_A C H.size))
    (hP : va_P G.1 vwCl (R ++ C) H) (hD : va_D A (R ++ C)) (hS : va_S A H0 H locs) (hA : ∀ q, H0.size ≤ q → A q)
    (kk : ∀ (u : S) (H1 : Heap) (locs1 : List Loc), post u → va_P G.1 vwCl (R ++ w1 u) H1 → va_D A (R ++ w1 u) → va_S A H0 H1 locs1 → W p l e R0 s m args below meth c H1 locs1 (cells + mc) (slots + ms) Q (F0 m (pc + 3) ls rest)) : W p l e R0 s m args below meth c H locs cells slots Q (F0 m pc ls st0) := by
  have hF := z_freeX hD hS hA
  refine va_callv hr hS (fun q _ h => hF q h) hF (fun u t H1 locs1 ht hvm hw hB hz1 hk1 hS1 => ?_)
  obtain ⟨hP1, hD1⟩ := hB
  rw [ht] at hP1
  obtain ⟨hP2, hD2⟩ := z_joinX hP hD hk1 hF hP1 hD1
  exact kk u H1 locs1 hw hP2 hD2 hS1
theorem z_callW {ad : zAd} {D : zDc} {K : zDc → Prop} (hr : va_Run p l e R0 s m args below meth c H locs cells slots mc ms (F0 m pc ls st0) rest (va_Qv K (fun u t => va_P G.1 vwCl (wCl G ad u) t.heap ∧ va_D (va_A (wCl G ad D) H.size) (wCl G ad u)) (va_A (wCl G ad D) H.size) a) (va_A (wCl G ad D) H.size))
    (hP : va_P G.1 vwCl (wCl G ad D) H) (hD : va_D A (wCl G ad D)) (hS : va_S A H0 H locs) (hA : ∀ q, H0.size ≤ q → A q)
    (kk : ∀ (D1 : zDc) (H1 : Heap) (locs1 : List Loc), K D1 → va_P G.1 vwCl (wCl G ad D1) H1 → va_D A (wCl G ad D1) → va_S A H0 H1 locs1 → W p l e R0 s m args below meth c H1 locs1 (cells + mc) (slots + ms) Q (F0 m (pc + 3) ls rest)) : W p l e R0 s m args below meth c H locs cells slots Q (F0 m pc ls st0) :=
  z_callvR (R := []) (C := wCl G ad D) (w1 := fun u => wCl G ad u) hr hP hD hS hA (fun u H1 locs1 h1 h2 h3 h4 => kk u H1 locs1 h1 h2 h3 h4)
end
/-- the address behind a call that the number v asks for -/
def adN (v : Int32) (a : Nat) : Nat := if v &&& 15 = 13 ∧ (v >>> (4 &&& 31)) &&& 3 = 0 then lowN (v >>> (6 &&& 31)) 3 else a
theorem adN_not {v : Int32} {j : Nat} (e : v &&& 15 = nI j) (h : j < 13 ∨ j = 14 ∨ j = 15) (a : Nat) : adN v a = a := by
  unfold adN
  rw [if_neg]
  rintro ⟨z, -⟩
  rw [e] at z
  have := (z_eq (a := j) (b := 13) rfl rfl (by omega) (by omega)).mp z
  omega
set_option maxHeartbeats 4000000 in
set_option maxRecDepth 100000 in
theorem pL_does (l : Launch) (G : zG) (sz : Nat) (ad : zAd) {D : zDc} {N : zN} {n : Nat} (h : J n D N) (hn : n < 8800) (v : Int32) : zMi l yL_does wsL_does ({ frames := 6, cells := 0, slots := 0, locals := 172 } : Room) [.ref ad.2.2.1, .int v] G (wCl G ad D) (fun (r : Int32) (D' : zDc) => -1 ≤ r ∧ ∃ (n' : Nat) (N' : zN), n' ≤ n + 40 ∧ J n' D' N' ∧ N' 2 = adN v (N 2) ∧ N' 8 ≤ N 8 + 1) (fun D' => wCl G ad D') sz 0 0 := by
  refine zMi_of (cc := cL_does) (maxL := 4) (ret := (some .int)) (by decide) rfl (Nat.le_of_ble_eq_true rfl) ?_
  intro p e s m args below meth c A ls hx hb hr hml hts hown hlocks hnm hK hP hD hAe hS hA hl hsz
  have hown : s.vm.findClass RL = some m.cls := hown
  have hl : lv_has ls 4 [(0, .ref ad.2.2.1), (1, .int v)] := hl
  obtain ⟨⟨b0, b1, b2, b3, b4, b5, b6, b7, b8, b9, b10⟩, ba, bd, bl⟩ := id h.2.1
  have M25 : ∀ (st : Nat) (H : Heap) (locs : List Loc) (ls : Array Slot), (1 ≤ st) → (st ≤ 10) → va_P G.1 vwCl (wCl G ad D) H → va_D A (wCl G ad D) → va_S A s.heap H locs → lv_has ls 4 [(0, .ref ad.2.2.1), (1, .int v)] → W p l e ({ frames := 6, cells := 0, slots := 0, locals := 172 } : Room) s m args below meth c H locs 0 0 (MQ below (zQi G (fun (r : Int32) (D' : zDc) => -1 ≤ r ∧ ∃ (n' : Nat) (N' : zN), n' ≤ n + 40 ∧ J n' D' N' ∧ N' 2 = adN v (N 2) ∧ N' 8 ≤ N 8 + 1) (fun D' => wCl G ad D') A) args s 0 0 A) (F0 m 25 ls [.int (nI st)]) := by
    intro st H locs ls s1 s9 hP hD hS hl
    refine lv_istore_n (lv' := [(2, .int (nI st)), (0, .ref ad.2.2.1), (1, .int v)]) hx hb dL_does_25 rfl hl (by decide) rfl (fun ls hl => ?_)
    refine lv_iload_n hx hb dL_does_26 rfl (lv_at hl 2 rfl) ?_
    refine lv_iconst (v := 4) hx hb dL_does_27 (by decide) ?_
    refine lv_ishr hx hb dL_does_28 ?_
    refine lv_iconst (v := 3) hx hb dL_does_29 (by decide) ?_
    refine z_callN (val := nI (lowN (v >>> (4 &&& 31)) 3)) (va_runS (As := [.int (v >>> (4 &&& 31)), .int 3]) (rest := []) ⟨hx, hb, hml, hown, hts⟩ (pL_low l G H.size (v >>> (4 &&& 31)) 3 (Nat.le_of_ble_eq_true rfl) (Nat.le_of_ble_eq_true rfl)) (va_cwS 2 hts gL_does_L_low rfl rfl rfl (by decide +kernel) ⟨(Nat.le_of_ble_eq_true rfl), (Nat.le_of_ble_eq_true rfl)⟩) (zS hK (zP_no hP) (zD_no hD)) rfl rfl hl.1 rfl (lv_room (Nat.le_of_ble_eq_true rfl)) dL_does_30 ⟨(Nat.le_of_ble_eq_true rfl), (Nat.le_of_ble_eq_true rfl)⟩) hP hD hS hA (fun H locs hP hD hS => ?_)
    have b_1 := lowN_lt (v := (v >>> (4 &&& 31))) (k := 3) (Nat.le_of_ble_eq_true rfl)
    refine lv_istore_n (lv' := [(3, .int (nI (lowN (v >>> (4 &&& 31)) 3))), (2, .int (nI st)), (0, .ref ad.2.2.1), (1, .int v)]) hx hb dL_does_33 rfl hl (by decide) rfl (fun ls hl => ?_)
    refine lv_iload_n hx hb dL_does_34 rfl (lv_at hl 3 rfl) ?_
    refine lv_bipush (v := 15) hx hb dL_does_35 (by decide) ?_
    refine lv_iand hx hb dL_does_37 ?_
    obtain ⟨j, hj, ej⟩ := andN v (m := 15) 4 (by decide)
    refine z_top ej ?_
    have T108 : ∀ (H : Heap) (locs : List Loc) (ls : Array Slot), (∀ a, adN v a = a) → va_P G.1 vwCl (wCl G ad D) H → va_D A (wCl G ad D) → va_S A s.heap H locs → lv_has ls 4 [(0, .ref ad.2.2.1), (1, .int v), (2, .int (nI st)), (3, .int (nI (lowN (v >>> (4 &&& 31)) 3)))] → W p l e ({ frames := 6, cells := 0, slots := 0, locals := 172 } : Room) s m args below meth c H locs 0 0 (MQ below (zQi G (fun (r : Int32) (D' : zDc) => -1 ≤ r ∧ ∃ (n' : Nat) (N' : zN), n' ≤ n + 40 ∧ J n' D' N' ∧ N' 2 = adN v (N 2) ∧ N' 8 ≤ N 8 + 1) (fun D' => wCl G ad D') A) args s 0 0 A) (F0 m 108 ls []) := by
      intro  H locs ls hno hP hD hS hl
      have P131 : ∀ (a9 : Nat) (H : Heap) (locs : List Loc) (ls : Array Slot), (a9 < 8) → va_P G.1 vwCl (wCl G ad D) H → va_D A (wCl G ad D) → va_S A s.heap H locs → lv_has ls 4 [(0, .ref ad.2.2.1), (1, .int v), (2, .int (nI st)), (3, .int (nI (lowN (v >>> (4 &&& 31)) 3)))] → W p l e ({ frames := 6, cells := 0, slots := 0, locals := 172 } : Room) s m args below meth c H locs 0 0 (MQ below (zQi G (fun (r : Int32) (D' : zDc) => -1 ≤ r ∧ ∃ (n' : Nat) (N' : zN), n' ≤ n + 40 ∧ J n' D' N' ∧ N' 2 = adN v (N 2) ∧ N' 8 ≤ N 8 + 1) (fun D' => wCl G ad D') A) args s 0 0 A) (F0 m 131 ls [.int (nI a9), .ref ad.2.2.1]) := by
        intro a9 H locs ls hx9 hP hD hS hl
        refine lv_iload_n hx hb dL_does_131 rfl (lv_at hl 3 rfl) ?_
        refine lv_iload_n hx hb dL_does_132 rfl (lv_at hl 1 rfl) ?_
        refine lv_bipush (v := 6) hx hb dL_does_133 (by decide) ?_
        refine lv_ishr hx hb dL_does_135 ?_
        refine lv_iconst (v := 1) hx hb dL_does_136 (by decide) ?_
        refine lv_iand hx hb dL_does_137 ?_
        obtain ⟨t_2, ht_2, et_2⟩ := andN (v >>> (6 &&& 31)) (m := 1) 1 (by decide)
        refine z_top et_2 ?_
        refine lv_iload_n hx hb dL_does_138 rfl (lv_at hl 2 rfl) ?_
        refine z_callA (va_runV (As := [.int (nI a9), .int (nI (lowN (v >>> (4 &&& 31)) 3)), .int (nI t_2), .int (nI st)]) (rest := []) ⟨hx, hb, hml, hown, hts⟩ (pC_frame l G H.size ad h (by omega) (a9 := a9) (c9 := (lowN (v >>> (4 &&& 31)) 3)) (g9 := t_2) (st := st) (by omega) (by omega) (by omega) s1 s9) (cwV 4 hts gL_does_X5_frame rfl rfl rfl (by decide +kernel) ⟨(Nat.le_of_ble_eq_true rfl), (Nat.le_of_ble_eq_true rfl)⟩) (zV (ci := 5) (q0 := 0) hK hP hD rfl (wCl_0 G ad D)) rfl rfl hl.1 rfl (lv_room (Nat.le_of_ble_eq_true rfl)) dL_does_139 ⟨(Nat.le_of_ble_eq_true rfl), (Nat.le_of_ble_eq_true rfl)⟩) hP hD hS hA (fun v_3 D_3 H locs k_3 hP hD hS => ?_)
        exact z_iret hx hb hr rfl hlocks D_3 hP hD hS (Nat.le_of_ble_eq_true rfl) (Nat.le_of_ble_eq_true rfl) dL_does_142 ⟨by rw [k_3.1]; exact (fr_all h.2.1).1, n + 1, _, by omega, k_3.2.1, by rw [hno]; exact (fr_all h.2.1).2.1, Nat.le_of_eq (fr_all h.2.1).2.2.1⟩
      refine lv_aload_n hx hb dL_does_108 rfl (lv_at hl 0 rfl) ?_
      refine lv_iload_n hx hb dL_does_109 rfl (lv_at hl 1 rfl) ?_
      refine lv_bipush (v := 9) hx hb dL_does_110 (by decide) ?_
      refine lv_ishr hx hb dL_does_112 ?_
      refine lv_bipush (v := 7) hx hb dL_does_113 (by decide) ?_
      refine lv_iand hx hb dL_does_115 ?_
      refine lv_if_ne (tgt := 130) hx hb dL_does_116 (by decide) (fun c_4 => ?_) (fun c_4 => ?_)
      · refine lv_iconst (v := 0) hx hb dL_does_130 (by decide) ?_
        exact P131 0 H _ _ (by omega) hP hD hS (lv_sub hl [0, 1, 2, 3] rfl)
      · refine lv_iload_n hx hb dL_does_119 rfl (lv_at hl 1 rfl) ?_
        refine lv_iconst (v := 4) hx hb dL_does_120 (by decide) ?_
        refine lv_ishr hx hb dL_does_121 ?_
        refine lv_bipush (v := 8) hx hb dL_does_122 (by decide) ?_
        refine z_callN (val := nI (lowN (v >>> (4 &&& 31)) 8)) (va_runS (As := [.int (v >>> (4 &&& 31)), .int 8]) (rest := [.ref ad.2.2.1]) ⟨hx, hb, hml, hown, hts⟩ (pL_low l G H.size (v >>> (4 &&& 31)) 8 (Nat.le_of_ble_eq_true rfl) (Nat.le_of_ble_eq_true rfl)) (va_cwS 2 hts gL_does_L_low rfl rfl rfl (by decide +kernel) ⟨(Nat.le_of_ble_eq_true rfl), (Nat.le_of_ble_eq_true rfl)⟩) (zS hK (zP_no hP) (zD_no hD)) rfl rfl hl.1 rfl (lv_room (Nat.le_of_ble_eq_true rfl)) dL_does_124 ⟨(Nat.le_of_ble_eq_true rfl), (Nat.le_of_ble_eq_true rfl)⟩) hP hD hS hA (fun H locs hP hD hS => ?_)
        have b_5 := lowN_lt (v := (v >>> (4 &&& 31))) (k := 8) (Nat.le_of_ble_eq_true rfl)
        refine lv_goto (tgt := 131) hx hb dL_does_127 (by decide) ?_
        exact P131 (lowN (v >>> (4 &&& 31)) 8) H _ _ (by omega) hP hD hS (lv_sub hl [0, 1, 2, 3] rfl)
    have T143 : ∀ (H : Heap) (locs : List Loc) (ls : Array Slot), (∀ a, adN v a = a) → va_P G.1 vwCl (wCl G ad D) H → va_D A (wCl G ad D) → va_S A s.heap H locs → lv_has ls 4 [(0, .ref ad.2.2.1), (1, .int v), (2, .int (nI st)), (3, .int (nI (lowN (v >>> (4 &&& 31)) 3)))] → W p l e ({ frames := 6, cells := 0, slots := 0, locals := 172 } : Room) s m args below meth c H locs 0 0 (MQ below (zQi G (fun (r : Int32) (D' : zDc) => -1 ≤ r ∧ ∃ (n' : Nat) (N' : zN), n' ≤ n + 40 ∧ J n' D' N' ∧ N' 2 = adN v (N 2) ∧ N' 8 ≤ N 8 + 1) (fun D' => wCl G ad D') A) args s 0 0 A) (F0 m 143 ls []) := by
      intro  H locs ls hno hP hD hS hl
      refine lv_aload_n hx hb dL_does_143 rfl (lv_at hl 0 rfl) ?_
      refine lv_iload_n hx hb dL_does_144 rfl (lv_at hl 2 rfl) ?_
      refine z_callA (va_runV (As := [.int (nI st)]) (rest := []) ⟨hx, hb, hml, hown, hts⟩ (pC_repeat l G H.size ad h (by omega) (st := st) s1 s9) (cwV 1 hts gL_does_X5_repeat rfl rfl rfl (by decide +kernel) ⟨(Nat.le_of_ble_eq_true rfl), (Nat.le_of_ble_eq_true rfl)⟩) (zV (ci := 5) (q0 := 0) hK hP hD rfl (wCl_0 G ad D)) rfl rfl hl.1 rfl (lv_room (Nat.le_of_ble_eq_true rfl)) dL_does_145 ⟨(Nat.le_of_ble_eq_true rfl), (Nat.le_of_ble_eq_true rfl)⟩) hP hD hS hA (fun v_6 D_6 H locs k_6 hP hD hS => ?_)
      obtain ⟨g1_6, N_6, g2_6, g3_6, g4_6, -⟩ := k_6
      exact z_iret hx hb hr rfl hlocks D_6 hP hD hS (Nat.le_of_ble_eq_true rfl) (Nat.le_of_ble_eq_true rfl) dL_does_148 ⟨g1_6, n + 1, N_6, by omega, g2_6, by rw [hno]; exact g3_6, by omega⟩
    have T149 : ∀ (H : Heap) (locs : List Loc) (ls : Array Slot), (∀ a, adN v a = a) → va_P G.1 vwCl (wCl G ad D) H → va_D A (wCl G ad D) → va_S A s.heap H locs → lv_has ls 4 [(0, .ref ad.2.2.1), (1, .int v), (2, .int (nI st)), (3, .int (nI (lowN (v >>> (4 &&& 31)) 3)))] → W p l e ({ frames := 6, cells := 0, slots := 0, locals := 172 } : Room) s m args below meth c H locs 0 0 (MQ below (zQi G (fun (r : Int32) (D' : zDc) => -1 ≤ r ∧ ∃ (n' : Nat) (N' : zN), n' ≤ n + 40 ∧ J n' D' N' ∧ N' 2 = adN v (N 2) ∧ N' 8 ≤ N 8 + 1) (fun D' => wCl G ad D') A) args s 0 0 A) (F0 m 149 ls []) := by
      intro  H locs ls hno hP hD hS hl
      have P163 : ∀ (D2 : zDc) (n2 : Nat) (N2 : zN) (H : Heap) (locs : List Loc) (ls : Array Slot), (J n2 D2 N2) → (n2 ≤ n + 30) → (N2 2 = N 2) → (N2 8 = N 8) → va_P G.1 vwCl (wCl G ad D2) H → va_D A (wCl G ad D2) → va_S A s.heap H locs → lv_has ls 4 [(0, .ref ad.2.2.1), (1, .int v), (2, .int (nI st)), (3, .int (nI (lowN (v >>> (4 &&& 31)) 3)))] → W p l e ({ frames := 6, cells := 0, slots := 0, locals := 172 } : Room) s m args below meth c H locs 0 0 (MQ below (zQi G (fun (r : Int32) (D' : zDc) => -1 ≤ r ∧ ∃ (n' : Nat) (N' : zN), n' ≤ n + 40 ∧ J n' D' N' ∧ N' 2 = adN v (N 2) ∧ N' 8 ≤ N 8 + 1) (fun D' => wCl G ad D') A) args s 0 0 A) (F0 m 163 ls []) := by
        intro D2 n2 N2 H locs ls h2 e2 f2 f8 hP hD hS hl
        refine lv_aload_n hx hb dL_does_163 rfl (lv_at hl 0 rfl) ?_
        refine z_callG (val := nI (N2 60)) (va_runV (As := []) (rest := []) ⟨hx, hb, hml, hown, hts⟩ (pC_row l G H.size ad h2) (cwV 0 hts gL_does_X5_row rfl rfl rfl (by decide +kernel) ⟨(Nat.le_of_ble_eq_true rfl), (Nat.le_of_ble_eq_true rfl)⟩) (zV (ci := 5) (q0 := 0) hK hP hD rfl (wCl_0 G ad D2)) rfl rfl hl.1 rfl (lv_room (Nat.le_of_ble_eq_true rfl)) dL_does_164 ⟨(Nat.le_of_ble_eq_true rfl), (Nat.le_of_ble_eq_true rfl)⟩) hP hD hS hA (fun H locs hP hD hS => ?_)
        have b60_7 := h2.2.1.2.2.2
        refine lv_iconst (v := 2) hx hb dL_does_167 (by decide) ?_
        refine lv_irem hx hb dL_does_168 (by decide) ?_
        refine z_top (show nI (N2 60) - nI (N2 60) / (2 : Int32) * (2 : Int32) = nI ((N2 60) % 2) from pk_rem (a := (N2 60)) (d := 2) (by omega) (by decide) (by decide)) ?_
        refine lv_iconst (v := 1) hx hb dL_does_169 (by decide) ?_
        refine lv_icmp_ne (tgt := 181) hx hb dL_does_170 (by decide) (fun c_8 => ?_) (fun c_8 => ?_)
        · refine lv_aload_n hx hb dL_does_181 rfl (lv_at hl 0 rfl) ?_
          refine z_callG (val := nI (N2 60)) (va_runV (As := []) (rest := []) ⟨hx, hb, hml, hown, hts⟩ (pC_row l G H.size ad h2) (cwV 0 hts gL_does_X5_row rfl rfl rfl (by decide +kernel) ⟨(Nat.le_of_ble_eq_true rfl), (Nat.le_of_ble_eq_true rfl)⟩) (zV (ci := 5) (q0 := 0) hK hP hD rfl (wCl_0 G ad D2)) rfl rfl hl.1 rfl (lv_room (Nat.le_of_ble_eq_true rfl)) dL_does_182 ⟨(Nat.le_of_ble_eq_true rfl), (Nat.le_of_ble_eq_true rfl)⟩) hP hD hS hA (fun H locs hP hD hS => ?_)
          have b60_9 := h2.2.1.2.2.2
          exact z_iret hx hb hr rfl hlocks D2 hP hD hS (Nat.le_of_ble_eq_true rfl) (Nat.le_of_ble_eq_true rfl) dL_does_185 ⟨ge_nI (by omega), n2, N2, by omega, h2, by rw [hno]; exact f2, by omega⟩
        · refine lv_aload_n hx hb dL_does_173 rfl (lv_at hl 0 rfl) ?_
          refine lv_iload_n hx hb dL_does_174 rfl (lv_at hl 2 rfl) ?_
          have z61 : N2 60 % 2 = 1 := (z_eq (b := 1) rfl rfl (by omega) (by omega)).mp c_8
          refine z_callA (va_runV (As := [.int (nI st)]) (rest := []) ⟨hx, hb, hml, hown, hts⟩ (pC_receive l G H.size ad h2 (by omega) z61 (st := st) s1 s9) (cwV 1 hts gL_does_X5_receive rfl rfl rfl (by decide +kernel) ⟨(Nat.le_of_ble_eq_true rfl), (Nat.le_of_ble_eq_true rfl)⟩) (zV (ci := 5) (q0 := 0) hK hP hD rfl (wCl_0 G ad D2)) rfl rfl hl.1 rfl (lv_room (Nat.le_of_ble_eq_true rfl)) dL_does_175 ⟨(Nat.le_of_ble_eq_true rfl), (Nat.le_of_ble_eq_true rfl)⟩) hP hD hS hA (fun v_10 D_10 H locs k_10 hP hD hS => ?_)
          obtain ⟨g1_10, N_10, g2_10, g3_10, g4_10, -⟩ := k_10
          refine lv_goto (tgt := 185) hx hb dL_does_178 (by decide) ?_
          exact z_iret hx hb hr rfl hlocks D_10 hP hD hS (Nat.le_of_ble_eq_true rfl) (Nat.le_of_ble_eq_true rfl) dL_does_185 ⟨g1_10, n2 + 1, N_10, by omega, g2_10, by rw [hno]; exact g3_10.trans f2, by omega⟩
      refine lv_aload_n hx hb dL_does_149 rfl (lv_at hl 0 rfl) ?_
      refine z_callG (val := nI (N 60)) (va_runV (As := []) (rest := []) ⟨hx, hb, hml, hown, hts⟩ (pC_row l G H.size ad h) (cwV 0 hts gL_does_X5_row rfl rfl rfl (by decide +kernel) ⟨(Nat.le_of_ble_eq_true rfl), (Nat.le_of_ble_eq_true rfl)⟩) (zV (ci := 5) (q0 := 0) hK hP hD rfl (wCl_0 G ad D)) rfl rfl hl.1 rfl (lv_room (Nat.le_of_ble_eq_true rfl)) dL_does_150 ⟨(Nat.le_of_ble_eq_true rfl), (Nat.le_of_ble_eq_true rfl)⟩) hP hD hS hA (fun H locs hP hD hS => ?_)
      have b60_11 := h.2.1.2.2.2
      refine lv_if_ne (tgt := 163) hx hb dL_does_153 (by decide) (fun c_12 => ?_) (fun c_12 => ?_)
      · exact P163 D n N H _ _ h (by omega) rfl rfl hP hD hS (lv_sub hl [0, 1, 2, 3] rfl)
      · refine lv_aload_n hx hb dL_does_156 rfl (lv_at hl 0 rfl) ?_
        refine lv_iload_n hx hb dL_does_157 rfl (lv_at hl 1 rfl) ?_
        refine lv_iconst (v := 4) hx hb dL_does_158 (by decide) ?_
        refine lv_ishr hx hb dL_does_159 ?_
        have z60 : N 60 = 0 := (z_eq (b := 0) rfl rfl (by omega) (by omega)).mp c_12
        refine z_callW (va_runS (As := [.ref ad.2.2.1, .int (v >>> (4 &&& 31))]) (rest := []) ⟨hx, hb, hml, hown, hts⟩ (pL_shine l G H.size ad h (by omega) z60 (v >>> (4 &&& 31))) (va_cwS 2 hts gL_does_L_shine rfl rfl rfl (by decide +kernel) ⟨(Nat.le_of_ble_eq_true rfl), (Nat.le_of_ble_eq_true rfl)⟩) (zS hK hP hD) rfl rfl hl.1 rfl (lv_room (Nat.le_of_ble_eq_true rfl)) dL_does_160 ⟨(Nat.le_of_ble_eq_true rfl), (Nat.le_of_ble_eq_true rfl)⟩) hP hD hS hA (fun D_13 H locs k_13 hP hD hS => ?_)
        obtain ⟨n_13, N_13, e_13, h_13, g_13, q_13⟩ := k_13
        exact P163 D_13 n_13 N_13 H _ _ h_13 (by omega) g_13 q_13 hP hD hS (lv_sub hl [0, 1, 2, 3] rfl)
    have T186 : ∀ (H : Heap) (locs : List Loc) (ls : Array Slot), (∀ a, adN v a = a) → va_P G.1 vwCl (wCl G ad D) H → va_D A (wCl G ad D) → va_S A s.heap H locs → lv_has ls 4 [(0, .ref ad.2.2.1), (1, .int v), (2, .int (nI st)), (3, .int (nI (lowN (v >>> (4 &&& 31)) 3)))] → W p l e ({ frames := 6, cells := 0, slots := 0, locals := 172 } : Room) s m args below meth c H locs 0 0 (MQ below (zQi G (fun (r : Int32) (D' : zDc) => -1 ≤ r ∧ ∃ (n' : Nat) (N' : zN), n' ≤ n + 40 ∧ J n' D' N' ∧ N' 2 = adN v (N 2) ∧ N' 8 ≤ N 8 + 1) (fun D' => wCl G ad D') A) args s 0 0 A) (F0 m 186 ls []) := by
      intro  H locs ls hno hP hD hS hl
      have P207 : ∀ (kk : Nat) (H : Heap) (locs : List Loc) (ls : Array Slot), (0 < kk) → (kk ≤ 99) → va_P G.1 vwCl (wCl G ad D) H → va_D A (wCl G ad D) → va_S A s.heap H locs → lv_has ls 4 [(0, .ref ad.2.2.1), (1, .int v), (2, .int (nI st)), (3, .int (nI (lowN (v >>> (4 &&& 31)) 3)))] → W p l e ({ frames := 6, cells := 0, slots := 0, locals := 172 } : Room) s m args below meth c H locs 0 0 (MQ below (zQi G (fun (r : Int32) (D' : zDc) => -1 ≤ r ∧ ∃ (n' : Nat) (N' : zN), n' ≤ n + 40 ∧ J n' D' N' ∧ N' 2 = adN v (N 2) ∧ N' 8 ≤ N 8 + 1) (fun D' => wCl G ad D') A) args s 0 0 A) (F0 m 207 ls [.int (nI kk), .int (v >>> (4 &&& 31)), .int 1, .ref ad.2.2.1]) := by
        intro kk H locs ls q1 q2 hP hD hS hl
        refine z_callN (val := nI (lowN (v >>> (4 &&& 31)) kk)) (va_runS (As := [.int (v >>> (4 &&& 31)), .int (nI kk)]) (rest := [.int 1, .ref ad.2.2.1]) ⟨hx, hb, hml, hown, hts⟩ (pL_low l G H.size (v >>> (4 &&& 31)) kk (by omega) (by omega)) (va_cwS 2 hts gL_does_L_low rfl rfl rfl (by decide +kernel) ⟨(Nat.le_of_ble_eq_true rfl), (Nat.le_of_ble_eq_true rfl)⟩) (zS hK (zP_no hP) (zD_no hD)) rfl rfl hl.1 rfl (lv_room (Nat.le_of_ble_eq_true rfl)) dL_does_207 ⟨(Nat.le_of_ble_eq_true rfl), (Nat.le_of_ble_eq_true rfl)⟩) hP hD hS hA (fun H locs hP hD hS => ?_)
        have b_14 := lowN_lt (v := (v >>> (4 &&& 31))) (k := kk) (by omega)
        refine lv_iadd hx hb dL_does_210 ?_
        refine z_top (show (1 : Int32) + nI (lowN (v >>> (4 &&& 31)) kk) = nI (1 + (lowN (v >>> (4 &&& 31)) kk)) from nI_add 1 (lowN (v >>> (4 &&& 31)) kk)) ?_
        refine z_callA (va_runV (As := [.int (nI (1 + (lowN (v >>> (4 &&& 31)) kk)))]) (rest := []) ⟨hx, hb, hml, hown, hts⟩ (pC_pass l G H.size ad h (by omega) (y9 := (1 + (lowN (v >>> (4 &&& 31)) kk))) (by omega) (by omega)) (cwV 1 hts gL_does_X5_pass rfl rfl rfl (by decide +kernel) ⟨(Nat.le_of_ble_eq_true rfl), (Nat.le_of_ble_eq_true rfl)⟩) (zV (ci := 5) (q0 := 0) hK hP hD rfl (wCl_0 G ad D)) rfl rfl hl.1 rfl (lv_room (Nat.le_of_ble_eq_true rfl)) dL_does_211 ⟨(Nat.le_of_ble_eq_true rfl), (Nat.le_of_ble_eq_true rfl)⟩) hP hD hS hA (fun v_15 D_15 H locs k_15 hP hD hS => ?_)
        have hb6 : paN N ((1 + (lowN (v >>> (4 &&& 31)) kk))) 6 ≤ 1000000 := by
          rw [paN_6]
          have := h.2.1.1.2.2.2.2.2.2.2.1
          split <;> omega
        exact z_iret hx hb hr rfl hlocks D_15 hP hD hS (Nat.le_of_ble_eq_true rfl) (Nat.le_of_ble_eq_true rfl) dL_does_214 ⟨by rw [k_15.1]; exact ge_m1 (by omega), n + 1, _, by omega, k_15.2.1, by rw [hno]; exact paN_at (by omega), by rw [paN_at (by omega)]; omega⟩
      refine lv_aload_n hx hb dL_does_186 rfl (lv_at hl 0 rfl) ?_
      refine lv_iconst (v := 1) hx hb dL_does_187 (by decide) ?_
      refine lv_iload_n hx hb dL_does_188 rfl (lv_at hl 1 rfl) ?_
      refine lv_iconst (v := 4) hx hb dL_does_189 (by decide) ?_
      refine lv_ishr hx hb dL_does_190 ?_
      refine lv_iload_n hx hb dL_does_191 rfl (lv_at hl 1 rfl) ?_
      refine lv_bipush (v := 8) hx hb dL_does_192 (by decide) ?_
      refine lv_ishr hx hb dL_does_194 ?_
      refine lv_iconst (v := 1) hx hb dL_does_195 (by decide) ?_
      refine lv_iand hx hb dL_does_196 ?_
      refine lv_if_ne (tgt := 205) hx hb dL_does_197 (by decide) (fun c_16 => ?_) (fun c_16 => ?_)
      · refine lv_bipush (v := 99) hx hb dL_does_205 (by decide) ?_
        exact P207 99 H _ _ (by omega) (by omega) hP hD hS (lv_sub hl [0, 1, 2, 3] rfl)
      · refine lv_bipush (v := 20) hx hb dL_does_200 (by decide) ?_
        refine lv_goto (tgt := 207) hx hb dL_does_202 (by decide) ?_
        exact P207 20 H _ _ (by omega) (by omega) hP hD hS (lv_sub hl [0, 1, 2, 3] rfl)
    have T215 : ∀ (H : Heap) (locs : List Loc) (ls : Array Slot), (∀ a, adN v a = a) → va_P G.1 vwCl (wCl G ad D) H → va_D A (wCl G ad D) → va_S A s.heap H locs → lv_has ls 4 [(0, .ref ad.2.2.1), (1, .int v), (2, .int (nI st)), (3, .int (nI (lowN (v >>> (4 &&& 31)) 3)))] → W p l e ({ frames := 6, cells := 0, slots := 0, locals := 172 } : Room) s m args below meth c H locs 0 0 (MQ below (zQi G (fun (r : Int32) (D' : zDc) => -1 ≤ r ∧ ∃ (n' : Nat) (N' : zN), n' ≤ n + 40 ∧ J n' D' N' ∧ N' 2 = adN v (N 2) ∧ N' 8 ≤ N 8 + 1) (fun D' => wCl G ad D') A) args s 0 0 A) (F0 m 215 ls []) := by
      intro  H locs ls hno hP hD hS hl
      refine lv_aload_n hx hb dL_does_215 rfl (lv_at hl 0 rfl) ?_
      refine lv_iload_n hx hb dL_does_216 rfl (lv_at hl 1 rfl) ?_
      refine lv_iconst (v := 4) hx hb dL_does_217 (by decide) ?_
      refine lv_ishr hx hb dL_does_218 ?_
      refine lv_bipush (v := 10) hx hb dL_does_219 (by decide) ?_
      refine z_callN (val := nI (lowN (v >>> (4 &&& 31)) 10)) (va_runS (As := [.int (v >>> (4 &&& 31)), .int 10]) (rest := [.ref ad.2.2.1]) ⟨hx, hb, hml, hown, hts⟩ (pL_low l G H.size (v >>> (4 &&& 31)) 10 (Nat.le_of_ble_eq_true rfl) (Nat.le_of_ble_eq_true rfl)) (va_cwS 2 hts gL_does_L_low rfl rfl rfl (by decide +kernel) ⟨(Nat.le_of_ble_eq_true rfl), (Nat.le_of_ble_eq_true rfl)⟩) (zS hK (zP_no hP) (zD_no hD)) rfl rfl hl.1 rfl (lv_room (Nat.le_of_ble_eq_true rfl)) dL_does_221 ⟨(Nat.le_of_ble_eq_true rfl), (Nat.le_of_ble_eq_true rfl)⟩) hP hD hS hA (fun H locs hP hD hS => ?_)
      have b_17 := lowN_lt (v := (v >>> (4 &&& 31))) (k := 10) (Nat.le_of_ble_eq_true rfl)
      refine z_callM (val := nI (N 0)) (va_runV (As := [.int (nI (lowN (v >>> (4 &&& 31)) 10))]) (rest := []) ⟨hx, hb, hml, hown, hts⟩ (pC_setGlare l G H.size ad h (by omega) (y9 := (lowN (v >>> (4 &&& 31)) 10)) (by omega)) (cwV 1 hts gL_does_X5_setGlare rfl rfl rfl (by decide +kernel) ⟨(Nat.le_of_ble_eq_true rfl), (Nat.le_of_ble_eq_true rfl)⟩) (zV (ci := 5) (q0 := 0) hK hP hD rfl (wCl_0 G ad D)) rfl rfl hl.1 rfl (lv_room (Nat.le_of_ble_eq_true rfl)) dL_does_224 ⟨(Nat.le_of_ble_eq_true rfl), (Nat.le_of_ble_eq_true rfl)⟩) hP hD hS hA (fun D_18 H locs k_18 hP hD hS => ?_)
      exact z_iret hx hb hr rfl hlocks D_18 hP hD hS (Nat.le_of_ble_eq_true rfl) (Nat.le_of_ble_eq_true rfl) dL_does_227 ⟨ge_nI (by omega), n + 1, _, by omega, k_18, by rw [hno]; exact va_upN (by omega), by rw [va_upN (by omega)]; omega⟩
    have T228 : ∀ (H : Heap) (locs : List Loc) (ls : Array Slot), (v &&& 15 = 13) → va_P G.1 vwCl (wCl G ad D) H → va_D A (wCl G ad D) → va_S A s.heap H locs → lv_has ls 4 [(0, .ref ad.2.2.1), (1, .int v), (2, .int (nI st)), (3, .int (nI (lowN (v >>> (4 &&& 31)) 3)))] → W p l e ({ frames := 6, cells := 0, slots := 0, locals := 172 } : Room) s m args below meth c H locs 0 0 (MQ below (zQi G (fun (r : Int32) (D' : zDc) => -1 ≤ r ∧ ∃ (n' : Nat) (N' : zN), n' ≤ n + 40 ∧ J n' D' N' ∧ N' 2 = adN v (N 2) ∧ N' 8 ≤ N 8 + 1) (fun D' => wCl G ad D') A) args s 0 0 A) (F0 m 228 ls []) := by
      intro  H locs ls h13 hP hD hS hl
      refine lv_iload_n hx hb dL_does_228 rfl (lv_at hl 1 rfl) ?_
      refine lv_iconst (v := 4) hx hb dL_does_229 (by decide) ?_
      refine lv_ishr hx hb dL_does_230 ?_
      refine lv_iconst (v := 3) hx hb dL_does_231 (by decide) ?_
      refine lv_iand hx hb dL_does_232 ?_
      obtain ⟨u_19, hu_19, eu_19⟩ := andN (v >>> (4 &&& 31)) (m := 3) 2 (by decide)
      refine z_top eu_19 ?_
      refine lv_if_le (tgt := 240) hx hb dL_does_233 (by decide) (fun c_20 => ?_) (fun c_20 => ?_)
      · have zu : (v >>> (4 &&& 31)) &&& 3 = 0 := eu_19.trans (congrArg nI (show u_19 = 0 from Nat.le_zero.mp ((z_le (b := 0) rfl rfl (by omega) (by omega)).mp c_20)))
        refine lv_aload_n hx hb dL_does_240 rfl (lv_at hl 0 rfl) ?_
        refine lv_iload_n hx hb dL_does_241 rfl (lv_at hl 1 rfl) ?_
        refine lv_bipush (v := 6) hx hb dL_does_242 (by decide) ?_
        refine lv_ishr hx hb dL_does_244 ?_
        refine lv_iconst (v := 3) hx hb dL_does_245 (by decide) ?_
        refine z_callN (val := nI (lowN (v >>> (6 &&& 31)) 3)) (va_runS (As := [.int (v >>> (6 &&& 31)), .int 3]) (rest := [.ref ad.2.2.1]) ⟨hx, hb, hml, hown, hts⟩ (pL_low l G H.size (v >>> (6 &&& 31)) 3 (Nat.le_of_ble_eq_true rfl) (Nat.le_of_ble_eq_true rfl)) (va_cwS 2 hts gL_does_L_low rfl rfl rfl (by decide +kernel) ⟨(Nat.le_of_ble_eq_true rfl), (Nat.le_of_ble_eq_true rfl)⟩) (zS hK (zP_no hP) (zD_no hD)) rfl rfl hl.1 rfl (lv_room (Nat.le_of_ble_eq_true rfl)) dL_does_246 ⟨(Nat.le_of_ble_eq_true rfl), (Nat.le_of_ble_eq_true rfl)⟩) hP hD hS hA (fun H locs hP hD hS => ?_)
        have b_21 := lowN_lt (v := (v >>> (6 &&& 31))) (k := 3) (Nat.le_of_ble_eq_true rfl)
        refine z_callM (val := nI (N 2)) (va_runV (As := [.int (nI (lowN (v >>> (6 &&& 31)) 3))]) (rest := []) ⟨hx, hb, hml, hown, hts⟩ (pC_setAddress l G H.size ad h (by omega) (y9 := (lowN (v >>> (6 &&& 31)) 3)) (by omega)) (cwV 1 hts gL_does_X5_setAddress rfl rfl rfl (by decide +kernel) ⟨(Nat.le_of_ble_eq_true rfl), (Nat.le_of_ble_eq_true rfl)⟩) (zV (ci := 5) (q0 := 0) hK hP hD rfl (wCl_0 G ad D)) rfl rfl hl.1 rfl (lv_room (Nat.le_of_ble_eq_true rfl)) dL_does_249 ⟨(Nat.le_of_ble_eq_true rfl), (Nat.le_of_ble_eq_true rfl)⟩) hP hD hS hA (fun D_22 H locs k_22 hP hD hS => ?_)
        exact z_iret hx hb hr rfl hlocks D_22 hP hD hS (Nat.le_of_ble_eq_true rfl) (Nat.le_of_ble_eq_true rfl) dL_does_252 ⟨ge_nI (by omega), n + 1, _, by omega, k_22, by unfold adN; rw [if_pos ⟨h13, zu⟩]; exact va_upS, by rw [va_upN (by omega)]; omega⟩
      · have zu : ¬ (v >>> (4 &&& 31)) &&& 3 = 0 := fun z => c_20 ((t_le (nI_toInt (n := u_19) (by omega)) (show (0 : Int32).toInt = 0 by decide)).mpr (by have := (z_eq (b := 0) rfl rfl (by omega) (by omega)).mp (eu_19.symm.trans z); omega))
        refine lv_iconst (v := 0) hx hb dL_does_236 (by decide) ?_
        refine lv_goto (tgt := 252) hx hb dL_does_237 (by decide) ?_
        exact z_iret hx hb hr rfl hlocks D hP hD hS (Nat.le_of_ble_eq_true rfl) (Nat.le_of_ble_eq_true rfl) dL_does_252 ⟨by decide, n, N, by omega, h, by unfold adN; rw [if_neg (fun z => zu z.2)], by omega⟩
    have T253 : ∀ (H : Heap) (locs : List Loc) (ls : Array Slot), (∀ a, adN v a = a) → va_P G.1 vwCl (wCl G ad D) H → va_D A (wCl G ad D) → va_S A s.heap H locs → lv_has ls 4 [(0, .ref ad.2.2.1), (1, .int v), (2, .int (nI st)), (3, .int (nI (lowN (v >>> (4 &&& 31)) 3)))] → W p l e ({ frames := 6, cells := 0, slots := 0, locals := 172 } : Room) s m args below meth c H locs 0 0 (MQ below (zQi G (fun (r : Int32) (D' : zDc) => -1 ≤ r ∧ ∃ (n' : Nat) (N' : zN), n' ≤ n + 40 ∧ J n' D' N' ∧ N' 2 = adN v (N 2) ∧ N' 8 ≤ N 8 + 1) (fun D' => wCl G ad D') A) args s 0 0 A) (F0 m 253 ls []) := by
      intro  H locs ls hno hP hD hS hl
      refine lv_aload_n hx hb dL_does_253 rfl (lv_at hl 0 rfl) ?_
      refine lv_iload_n hx hb dL_does_254 rfl (lv_at hl 3 rfl) ?_
      refine lv_iload_n hx hb dL_does_255 rfl (lv_at hl 1 rfl) ?_
      refine lv_bipush (v := 6) hx hb dL_does_256 (by decide) ?_
      refine lv_ishr hx hb dL_does_258 ?_
      refine lv_iconst (v := 3) hx hb dL_does_259 (by decide) ?_
      refine z_callN (val := nI (lowN (v >>> (6 &&& 31)) 3)) (va_runS (As := [.int (v >>> (6 &&& 31)), .int 3]) (rest := [.int (nI (lowN (v >>> (4 &&& 31)) 3)), .ref ad.2.2.1]) ⟨hx, hb, hml, hown, hts⟩ (pL_low l G H.size (v >>> (6 &&& 31)) 3 (Nat.le_of_ble_eq_true rfl) (Nat.le_of_ble_eq_true rfl)) (va_cwS 2 hts gL_does_L_low rfl rfl rfl (by decide +kernel) ⟨(Nat.le_of_ble_eq_true rfl), (Nat.le_of_ble_eq_true rfl)⟩) (zS hK (zP_no hP) (zD_no hD)) rfl rfl hl.1 rfl (lv_room (Nat.le_of_ble_eq_true rfl)) dL_does_260 ⟨(Nat.le_of_ble_eq_true rfl), (Nat.le_of_ble_eq_true rfl)⟩) hP hD hS hA (fun H locs hP hD hS => ?_)
      have b_23 := lowN_lt (v := (v >>> (6 &&& 31))) (k := 3) (Nat.le_of_ble_eq_true rfl)
      refine z_callM (val := nI (N (16 + (lowN (v >>> (4 &&& 31)) 3)))) (va_runV (As := [.int (nI (lowN (v >>> (4 &&& 31)) 3)), .int (nI (lowN (v >>> (6 &&& 31)) 3))]) (rest := []) ⟨hx, hb, hml, hown, hts⟩ (pC_learn l G H.size ad h (by omega) (k9 := (lowN (v >>> (4 &&& 31)) 3)) (y9 := (lowN (v >>> (6 &&& 31)) 3)) (by omega) (by omega)) (cwV 2 hts gL_does_X5_learn rfl rfl rfl (by decide +kernel) ⟨(Nat.le_of_ble_eq_true rfl), (Nat.le_of_ble_eq_true rfl)⟩) (zV (ci := 5) (q0 := 0) hK hP hD rfl (wCl_0 G ad D)) rfl rfl hl.1 rfl (lv_room (Nat.le_of_ble_eq_true rfl)) dL_does_263 ⟨(Nat.le_of_ble_eq_true rfl), (Nat.le_of_ble_eq_true rfl)⟩) hP hD hS hA (fun D_24 H locs k_24 hP hD hS => ?_)
      have hb16 : N (16 + (lowN (v >>> (4 &&& 31)) 3)) ≤ 2 := h.2.1.2.1 _ (by omega)
      exact z_iret hx hb hr rfl hlocks D_24 hP hD hS (Nat.le_of_ble_eq_true rfl) (Nat.le_of_ble_eq_true rfl) dL_does_266 ⟨ge_nI (by omega), n + 1, _, by omega, k_24, by rw [hno]; exact va_upN (by omega), by rw [va_upN (by omega)]; omega⟩
    rcases (show j = 0 ∨ j = 1 ∨ j = 2 ∨ j = 3 ∨ j = 4 ∨ j = 5 ∨ j = 6 ∨ j = 7 ∨ j = 8 ∨ j = 9 ∨ j = 10 ∨ j = 11 ∨ j = 12 ∨ j = 13 ∨ j = 14 ∨ j = 15 by omega) with rfl | rfl | rfl | rfl | rfl | rfl | rfl | rfl | rfl | rfl | rfl | rfl | rfl | rfl | rfl | rfl
    · refine lv_tableIn (x := nI 0) (off := 70) (tgt := 108) hx hb dL_does_38 (by decide) (by decide) (by decide) (by decide) ?_
      exact T108  H _ _ (adN_not ej (by omega)) hP hD hS (lv_sub hl [2, 3, 1, 0] rfl)
    · refine lv_tableIn (x := nI 1) (off := 70) (tgt := 108) hx hb dL_does_38 (by decide) (by decide) (by decide) (by decide) ?_
      exact T108  H _ _ (adN_not ej (by omega)) hP hD hS (lv_sub hl [2, 3, 1, 0] rfl)
    · refine lv_tableIn (x := nI 2) (off := 70) (tgt := 108) hx hb dL_does_38 (by decide) (by decide) (by decide) (by decide) ?_
      exact T108  H _ _ (adN_not ej (by omega)) hP hD hS (lv_sub hl [2, 3, 1, 0] rfl)
    · refine lv_tableIn (x := nI 3) (off := 70) (tgt := 108) hx hb dL_does_38 (by decide) (by decide) (by decide) (by decide) ?_
      exact T108  H _ _ (adN_not ej (by omega)) hP hD hS (lv_sub hl [2, 3, 1, 0] rfl)
    · refine lv_tableIn (x := nI 4) (off := 70) (tgt := 108) hx hb dL_does_38 (by decide) (by decide) (by decide) (by decide) ?_
      exact T108  H _ _ (adN_not ej (by omega)) hP hD hS (lv_sub hl [2, 3, 1, 0] rfl)
    · refine lv_tableIn (x := nI 5) (off := 105) (tgt := 143) hx hb dL_does_38 (by decide) (by decide) (by decide) (by decide) ?_
      exact T143  H _ _ (adN_not ej (by omega)) hP hD hS (lv_sub hl [2, 3, 1, 0] rfl)
    · refine lv_tableIn (x := nI 6) (off := 105) (tgt := 143) hx hb dL_does_38 (by decide) (by decide) (by decide) (by decide) ?_
      exact T143  H _ _ (adN_not ej (by omega)) hP hD hS (lv_sub hl [2, 3, 1, 0] rfl)
    · refine lv_tableIn (x := nI 7) (off := 105) (tgt := 143) hx hb dL_does_38 (by decide) (by decide) (by decide) (by decide) ?_
      exact T143  H _ _ (adN_not ej (by omega)) hP hD hS (lv_sub hl [2, 3, 1, 0] rfl)
    · refine lv_tableIn (x := nI 8) (off := 111) (tgt := 149) hx hb dL_does_38 (by decide) (by decide) (by decide) (by decide) ?_
      exact T149  H _ _ (adN_not ej (by omega)) hP hD hS (lv_sub hl [2, 3, 1, 0] rfl)
    · refine lv_tableIn (x := nI 9) (off := 111) (tgt := 149) hx hb dL_does_38 (by decide) (by decide) (by decide) (by decide) ?_
      exact T149  H _ _ (adN_not ej (by omega)) hP hD hS (lv_sub hl [2, 3, 1, 0] rfl)
    · refine lv_tableIn (x := nI 10) (off := 148) (tgt := 186) hx hb dL_does_38 (by decide) (by decide) (by decide) (by decide) ?_
      exact T186  H _ _ (adN_not ej (by omega)) hP hD hS (lv_sub hl [2, 3, 1, 0] rfl)
    · refine lv_tableIn (x := nI 11) (off := 148) (tgt := 186) hx hb dL_does_38 (by decide) (by decide) (by decide) (by decide) ?_
      exact T186  H _ _ (adN_not ej (by omega)) hP hD hS (lv_sub hl [2, 3, 1, 0] rfl)
    · refine lv_tableIn (x := nI 12) (off := 177) (tgt := 215) hx hb dL_does_38 (by decide) (by decide) (by decide) (by decide) ?_
      exact T215  H _ _ (adN_not ej (by omega)) hP hD hS (lv_sub hl [2, 3, 1, 0] rfl)
    · refine lv_tableIn (x := nI 13) (off := 190) (tgt := 228) hx hb dL_does_38 (by decide) (by decide) (by decide) (by decide) ?_
      exact T228  H _ _ ej hP hD hS (lv_sub hl [2, 3, 1, 0] rfl)
    · refine lv_tableOut (x := nI 14) (tgt := 253) hx hb dL_does_38 (by decide) (by decide) ?_
      exact T253  H _ _ (adN_not ej (by omega)) hP hD hS (lv_sub hl [2, 3, 1, 0] rfl)
    · refine lv_tableOut (x := nI 15) (tgt := 253) hx hb dL_does_38 (by decide) (by decide) ?_
      exact T253  H _ _ (adN_not ej (by omega)) hP hD hS (lv_sub hl [2, 3, 1, 0] rfl)
  refine lv_iload_n hx hb dL_does_0 rfl (lv_at hl 1 rfl) ?_
  refine lv_bipush (v := 12) hx hb dL_does_1 (by decide) ?_
  refine lv_ishr hx hb dL_does_3 ?_
  refine lv_iconst (v := 3) hx hb dL_does_4 (by decide) ?_
  refine lv_iand hx hb dL_does_5 ?_
  refine lv_if_le (tgt := 14) hx hb dL_does_6 (by decide) (fun c_25 => ?_) (fun c_25 => ?_)
  · refine lv_iconst (v := 1) hx hb dL_does_14 (by decide) ?_
    refine lv_iload_n hx hb dL_does_15 rfl (lv_at hl 1 rfl) ?_
    refine lv_bipush (v := 7) hx hb dL_does_16 (by decide) ?_
    refine lv_ishr hx hb dL_does_18 ?_
    refine lv_bipush (v := 10) hx hb dL_does_19 (by decide) ?_
    refine z_callN (val := nI (lowN (v >>> (7 &&& 31)) 10)) (va_runS (As := [.int (v >>> (7 &&& 31)), .int 10]) (rest := [.int 1]) ⟨hx, hb, hml, hown, hts⟩ (pL_low l G s.heap.size (v >>> (7 &&& 31)) 10 (Nat.le_of_ble_eq_true rfl) (Nat.le_of_ble_eq_true rfl)) (va_cwS 2 hts gL_does_L_low rfl rfl rfl (by decide +kernel) ⟨(Nat.le_of_ble_eq_true rfl), (Nat.le_of_ble_eq_true rfl)⟩) (zS hK (zP_no hP) (zD_no hD)) rfl rfl hl.1 rfl (lv_room (Nat.le_of_ble_eq_true rfl)) dL_does_21 ⟨(Nat.le_of_ble_eq_true rfl), (Nat.le_of_ble_eq_true rfl)⟩) hP hD hS hA (fun H locs hP hD hS => ?_)
    have b_26 := lowN_lt (v := (v >>> (7 &&& 31))) (k := 10) (Nat.le_of_ble_eq_true rfl)
    refine lv_iadd hx hb dL_does_24 ?_
    refine z_top (show (1 : Int32) + nI (lowN (v >>> (7 &&& 31)) 10) = nI (1 + (lowN (v >>> (7 &&& 31)) 10)) from nI_add 1 (lowN (v >>> (7 &&& 31)) 10)) ?_
    exact M25 (1 + (lowN (v >>> (7 &&& 31)) 10)) H _ _ (by omega) (by omega) hP hD hS (lv_sub hl [0, 1] rfl)
  · refine lv_bipush (v := 10) hx hb dL_does_9 (by decide) ?_
    refine lv_goto (tgt := 25) hx hb dL_does_11 (by decide) ?_
    exact M25 10 _ _ _ (by omega) (by omega) hP hD hS (lv_sub hl [0, 1] rfl)
end PL3
