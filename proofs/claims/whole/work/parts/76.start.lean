/-! ===== the law from its entry ===== -/
section START
theorem relA_0 {pp : Nat → Nat → Nat} : relA 0 (pp, (0, fun _ => zS0), zS0, ((0, 0, 0, 0), (0, fun _ => 0), (0, fun _ => 0)), (0, fun _ => 0)) ((0, fun _ _ => 0), (sR0, fun _ => 0), (0, fun _ => 0), (0, fun _ => 0), (0, fun _ => 0), (0, 0), 0) := by
  refine ⟨rfl, Nat.zero_le _, fun i hi => absurd hi (Nat.not_lt_zero i), ⟨⟨⟨0, 10, 0, by omega, by omega, by omega, by omega, nI_0.symm, nI_0.symm, (show gS0 1 = nI 10 by decide), by decide, nI_0.symm, nI_0.symm, okg_of (c := 0) nI_0.symm (by omega), Or.inl ⟨(show gS0 6 = -1 by decide), by decide, by decide⟩, ?_, rfl, rfl⟩, fun k hk => ⟨?_, 0, by omega, nI_0.symm⟩, fun k hk => ?_, fun k h1 h2 => ?_, (show gS0 9 = acN sR0 6 by decide +kernel)⟩, Nat.zero_le _, nI_0.symm, fun j hj => absurd hj (Nat.not_lt_zero j)⟩, ⟨Nat.zero_le _, Nat.zero_le _⟩, rfl, Nat.zero_le _⟩
  · have hn : ¬ rmb zS0.1 := fun z => z.1 (by decide)
    rw [if_neg hn]
    decide
  · show sR0 (16 + k) = 0
    unfold sR0
    rw [if_neg (by omega), if_neg (by omega)]
  · show sR0 (32 + k) = 0
    unfold sR0
    rw [if_neg (by omega), if_neg (by omega)]
  · show sR0 (9 + k) = 0
    unfold sR0
    rw [if_neg (by omega), if_neg (by omega)]
theorem zA_int {args : Array Value} {s : State} (h : (Cond.arrayClass .int).before args s = true) : ∃ cA, ArrOfT s cA .int ∧ va_RA s cA .int := by
  obtain ⟨cA, kA, comp, h1, h2, h3⟩ := Cond.arrayClass_spec h
  exact ⟨cA, fun n z => ⟨fun k h => (by cases h), kA, h2, comp, h3⟩, h1⟩
theorem zA_long {args : Array Value} {s : State} (h : (Cond.arrayClass .long).before args s = true) : ∃ cA, ArrOfT s cA .long ∧ va_RA s cA .long := by
  obtain ⟨cA, kA, comp, h1, h2, h3⟩ := Cond.arrayClass_spec h
  exact ⟨cA, fun n z => ⟨fun k h => (by cases h), kA, h2, comp, h3⟩, h1⟩
theorem zA_obj {args : Array Value} {s : State} {C : String} (h : (Cond.arrayOver (.object C)).before args s = true) : ∃ cA, ArrOfT s cA (.object C) ∧ va_RA s cA (.object C) := by
  obtain ⟨comp, cA, kA, h1, h2, h3, h4, h5⟩ := Cond.arrayOver_spec h
  exact ⟨cA, fun n z => ⟨fun k h => (by cases h), kA, h3, comp, h4⟩, kA, comp, h3, h4, h1, h5⟩
theorem zR_str {args : Array Value} {s : State} {own tx : String} {k : Nat} {cc : ClassId} (hown : s.vm.findClass own = some cc) (h : (Cond.stringRef own k tx).before args s = true) : ∃ a, vk_R own k tx a s := by
  have h0 : (Cond.stringRef own k tx).before #[] s = true := h
  obtain ⟨-, -, -, sa, -, -, -, -, -, hev⟩ := Cond.stringRef_spec hown h0
  exact ⟨sa, h0, hev⟩
theorem zN_f : ∀ q ∈ zNF, Cond.fieldLinkNest q.1 q.2.1 q.2.2.1 q.2.2.2.1 q.2.2.2.2.1 q.2.2.2.2.2 ∈ lw_tbl := by decide +kernel
theorem zN_m : ∀ q ∈ zNM, Cond.methodLinkNest q.1 q.2.1 q.2.2.1 q.2.2.2 ∈ lw_tbl := by decide +kernel
theorem zN_s : ∀ q ∈ zS6, Cond.stringRef "LightReceiver" q.2.1 q.2.2 ∈ lw_tbl := by decide +kernel
theorem zN_d : ∀ y ∈ zXd, Cond.declares y ∈ lw_tbl := by decide +kernel
theorem zN_i : Cond.arrayClass .int ∈ lw_tbl := by decide +kernel
theorem zN_l : Cond.arrayClass .long ∈ lw_tbl := by decide +kernel
theorem zN_o : Cond.arrayOver (.object RX4) ∈ lw_tbl := by decide +kernel
theorem zN_1 : Cond.laysStatic Bundle.tN "UNASSIGNED_STACK" Bundle.steD ∈ lw_tbl := by decide +kernel
theorem zN_2 : Cond.laysStatic Bundle.tN "SUPPRESSED_SENTINEL" Bundle.listD ∈ lw_tbl := by decide +kernel
theorem zN_3 : Cond.initialized Bundle.tN ∈ lw_tbl := by decide +kernel
theorem zG_1 : Cond.isRef (.static Bundle.tN "UNASSIGNED_STACK" Bundle.steD) ∈ flatC (Jvm.Cond.and given_1 narrow_1) := by decide +kernel
theorem zG_2 : Cond.isRef (.static Bundle.tN "SUPPRESSED_SENTINEL" Bundle.listD) ∈ flatC (Jvm.Cond.and given_1 narrow_1) := by decide +kernel
theorem zG_c : ∀ X ∈ zXc, Cond.castable X X ∈ lw_tbl := by decide +kernel
theorem zG_n1 : Cond.not (.castable "java/lang/IllegalStateException" "java/lang/IllegalArgumentException") ∈ flatC (Jvm.Cond.and given_1 narrow_1) := by decide +kernel
theorem zG_n2 : Cond.not (.castable "java/lang/IllegalArgumentException" "java/lang/IndexOutOfBoundsException") ∈ flatC (Jvm.Cond.and given_1 narrow_1) := by decide +kernel
theorem zN_X0 : Cond.instantiable RX0 6 ∈ lw_tbl := by decide +kernel
theorem zN_X1 : Cond.instantiable RX1 1 ∈ lw_tbl := by decide +kernel
theorem zN_X2 : Cond.instantiable RX2 2 ∈ lw_tbl := by decide +kernel
theorem zN_X3 : Cond.instantiable RX3 2 ∈ lw_tbl := by decide +kernel
theorem zN_X4 : Cond.instantiable RX4 14 ∈ lw_tbl := by decide +kernel
theorem zN_X5 : Cond.instantiable RX5 4 ∈ lw_tbl := by decide +kernel
theorem zN_X6 : Cond.instantiable RX6 13 ∈ lw_tbl := by decide +kernel
theorem zL_a : Cond.classLink RL 8 RX5 ∈ wsL_law := by decide +kernel
theorem zL_b : Cond.instantiable RX5 4 ∈ wsL_law := by decide +kernel
theorem zL_c : Cond.initialized RX5 ∈ wsL_law := by decide +kernel
theorem zL_d : Cond.classLink RL 68 RX6 ∈ wsL_law := by decide +kernel
theorem zL_e : Cond.instantiable RX6 13 ∈ wsL_law := by decide +kernel
theorem zL_f : Cond.initialized RX6 ∈ wsL_law := by decide +kernel
theorem zL_g : Cond.arrayClass .long ∈ wsL_law := by decide +kernel
theorem zL_h : Cond.methodLink RL 67 yX5_init ∈ wsL_law := by decide +kernel
theorem zL_i : Cond.instanceMethod yX5_init ∈ wsL_law := by decide +kernel
theorem zL_j : Cond.methodLink RL 70 yX6_init ∈ wsL_law := by decide +kernel
theorem zL_k : Cond.instanceMethod yX6_init ∈ wsL_law := by decide +kernel
section
variable {p : Program} {l : Launch} {e : Env} {R0 : Room} {s : State} {m : MethodId} {args : Array Value} {below : List Frame} {meth : Method} {c : Code} {H : Heap} {locs : List Loc} {cells slots : Nat} {Q : State → Prop}
variable {pc : Nat} {ls : Array Slot} {rest st0 : List Value} {G : zG} {A : Nat → Prop} {R C : va_W} {H0 : Heap} {mc ms : Nat} {a : Array Value}
theorem z_callvR {S : Type} {post : S → Prop} {w1 : S → va_W} (hr : va_Run p l e R0 s m args below meth c H locs cells slots mc ms (F0 m pc ls st0) rest (va_Qv post (fun u t => va_P G.1 vwCl (w1 u) t.heap ∧ va_D (va_A C H.size) (w1 u)) (va_A C H.size) a) (va_A C H.size))
    (hP : va_P G.1 vwCl (R ++ C) H) (hD : va_D A (R ++ C)) (hS : va_S A H0 H locs) (hA : ∀ q, H0.size ≤ q → A q)
    (kk : ∀ (u : S) (H1 : Heap) (locs1 : List Loc), post u → va_P G.1 vwCl (R ++ w1 u) H1 → va_D A (R ++ w1 u) → va_S A H0 H1 locs1 → W p l e R0 s m args below meth c H1 locs1 (cells + mc) (slots + ms) Q (F0 m (pc + 3) ls rest)) : W p l e R0 s m args below meth c H locs cells slots Q (F0 m pc ls st0) := by
  have hF := z_freeX hD hS hA
  refine va_callv hr hS (fun q _ h => hF q h) hF (fun u t H1 locs1 ht hvm hw hB hz1 hk1 hS1 => ?_)
  obtain ⟨hP1, hD1⟩ := hB
  rw [ht] at hP1
  obtain ⟨hP2, hD2⟩ := z_joinX hP hD hk1 hF hP1 hD1
  exact kk u H1 locs1 hw hP2 hD2 hS1
end
theorem z_ord {X Y Z : va_W} : ((X ++ Y) ++ Z).Perm ((Z ++ X) ++ Y) := by
  rw [List.append_assoc Z X Y]
  exact List.perm_append_comm
/-- the classes, arrays, links and texts that all contracts share -/
theorem zK_of {s : State} {args : Array Value} (h : ∀ w ∈ lw_tbl, w.before args s = true) : ∃ G : zG, zK G s := by
  obtain ⟨c0, i0, hK0⟩ := u_known (C := RX0) (T := TX0) (N := 6) (n := 6) h law_inX0 (h _ zN_X0)
  obtain ⟨c1, i1, hK1⟩ := u_known (C := RX1) (T := TX1) (N := 1) (n := 1) h law_inX1 (h _ zN_X1)
  obtain ⟨c2, i2, hK2⟩ := u_known (C := RX2) (T := TX2) (N := 2) (n := 2) h law_inX2 (h _ zN_X2)
  obtain ⟨c3, i3, hK3⟩ := u_known (C := RX3) (T := TX3) (N := 2) (n := 2) h law_inX3 (h _ zN_X3)
  obtain ⟨c4, i4, hK4⟩ := u_known (C := RX4) (T := TX4) (N := 14) (n := 14) h law_inX4 (h _ zN_X4)
  obtain ⟨c5, i5, hK5⟩ := u_known (C := RX5) (T := TX5) (N := 4) (n := 4) h law_inX5 (h _ zN_X5)
  obtain ⟨c6, i6, hK6⟩ := u_known (C := RX6) (T := TX6) (N := 13) (n := 13) h law_inX6 (h _ zN_X6)
  obtain ⟨dI, dI1, dI2⟩ := zA_int (h _ zN_i)
  obtain ⟨dS, dS1, dS2⟩ := zA_obj (h _ zN_o)
  obtain ⟨dL, dL1, dL2⟩ := zA_long (h _ zN_l)
  obtain ⟨s0, hs0⟩ := zR_str hK5.2.1 (h _ (zN_s _ (List.mem_of_getElem? (i := 0) rfl)))
  obtain ⟨s1, hs1⟩ := zR_str hK5.2.1 (h _ (zN_s _ (List.mem_of_getElem? (i := 1) rfl)))
  obtain ⟨s2, hs2⟩ := zR_str hK5.2.1 (h _ (zN_s _ (List.mem_of_getElem? (i := 2) rfl)))
  obtain ⟨s3, hs3⟩ := zR_str hK5.2.1 (h _ (zN_s _ (List.mem_of_getElem? (i := 3) rfl)))
  obtain ⟨s4, hs4⟩ := zR_str hK5.2.1 (h _ (zN_s _ (List.mem_of_getElem? (i := 4) rfl)))
  obtain ⟨s5, hs5⟩ := zR_str hK5.2.1 (h _ (zN_s _ (List.mem_of_getElem? (i := 5) rfl)))
  refine ⟨((fun k => match k with | 0 => c0 | 1 => c1 | 2 => c2 | 3 => c3 | 4 => c4 | 5 => c5 | _ => c6, fun k => match k with | 0 => i0 | 1 => i1 | 2 => i2 | 3 => i3 | 4 => i4 | 5 => i5 | _ => i6), fun k => match k with | 0 => dI | 1 => dS | _ => dL, fun k => match k with | 0 => s0 | 1 => s1 | 2 => s2 | 3 => s3 | 4 => s4 | _ => s5), ⟨?_, ?_⟩, fun q hq => va_Nw.of rfl (h _ (zN_f q hq)), fun q hq => va_Nw.of rfl (h _ (zN_m q hq)), ?_⟩
  · intro k q hq
    match k, hq with
    | 0, hq => cases hq; exact hK0
    | 1, hq => cases hq; exact hK1
    | 2, hq => cases hq; exact hK2
    | 3, hq => cases hq; exact hK3
    | 4, hq => cases hq; exact hK4
    | 5, hq => cases hq; exact hK5
    | 6, hq => cases hq; exact hK6
    | k + 7, hq => cases hq
  · intro k q hq
    match k, hq with
    | 0, hq => cases hq; exact ⟨dI1, dI2⟩
    | 1, hq => cases hq; exact ⟨dS1, dS2⟩
    | 2, hq => cases hq; exact ⟨dL1, dL2⟩
    | k + 3, hq => cases hq
  · exact List.forall_mem_cons.mpr ⟨hs0, List.forall_mem_cons.mpr ⟨hs1, List.forall_mem_cons.mpr ⟨hs2, List.forall_mem_cons.mpr ⟨hs3, List.forall_mem_cons.mpr ⟨hs4, List.forall_mem_cons.mpr ⟨hs5, fun _ z => absurd z List.not_mem_nil⟩⟩⟩⟩⟩⟩
set_option maxRecDepth 100000 in
set_option maxHeartbeats 4000000 in
/-- the law, from its entry -/
theorem whole_start {p : Program} {e : Env} {s : State} {m : MethodId} {below : List Frame} {meth : Method} {c : Code} (l : Launch) (hflags : l.flags = flags0) {b L : Nat} {xs : Nat → Int32} (hL : L ≤ 2560) (C0 : lw_At p s m meth c b L xs) : W p l e room_1 s m #[Value.ref b] below meth c s.heap [] 0 0 (lw_Z below #[Value.ref b] s) (entryFrame m ([Value.ref b] : List Value).toArray 9) := by
  obtain ⟨hx, hb, hr, hml, hown, ht0, hX, hbl, hlocks, hgv⟩ := C0
  have hown : s.vm.findClass RL = some m.cls := hown
  have hb : c.code = cL_law := hb
  have hts : ∀ w ∈ wsL_law, w.before #[Value.ref b] s = true := fun w h => ht0 w (wsL_law_in w h)
  have hl0 : l.stackTraces = false := by
    unfold Launch.stackTraces
    rw [hflags]
    decide +kernel
  have hA : ∀ z : Nat, s.heap.size ≤ z → (fun z : Nat => s.heap.size ≤ z) z := fun _ h => h
  have hbA : ¬ (fun z : Nat => s.heap.size ≤ z) b := Nat.not_le.mpr hbl
  obtain ⟨G, hK⟩ := zK_of ht0
  have hgf := flat_of_before _ hgv
  have hnA : ∀ z : Nat, z < s.heap.size → ¬ (fun z : Nat => s.heap.size ≤ z) z := fun z h => Nat.not_le.mpr h
  have hZ : zX (fun z : Nat => s.heap.size ≤ z) s s.heap := ⟨vx_Zqof (ht0 _ zN_1) (ht0 _ zN_3) (hgf _ zG_1) hnA, vx_Zqof (ht0 _ zN_2) (ht0 _ zN_3) (hgf _ zG_2) hnA, fun X hX => va_Nw.of rfl (ht0 _ (zG_c X hX)), fun y hy => va_Nw.of rfl (ht0 _ (zN_d y hy))⟩
  have hN : zNc s := ⟨va_Nc.of (hgf _ zG_n1), va_Nc.of (hgf _ zG_n2)⟩
  have hO : va_AO RX4 s := va_AO.of (ht0 _ zN_o)
  have CX : lwX p s m c b L xs G (fun z : Nat => s.heap.size ≤ z) := ⟨hx, hb, hml, hown, hts, hX, hbl, hbA, hK, hZ, hN, hA, hL⟩
  have hS : va_S (fun z : Nat => s.heap.size ≤ z) s.heap s.heap [] := va_S.rf
  have hP : va_P G.1 vwCl [] s.heap := fun k q h => by cases h
  have hD : va_D (fun z : Nat => s.heap.size ≤ z) [] := ⟨fun i j p q h => (by cases h), fun k q h => (by cases h)⟩
  have hl := lv_entry ([.ref b]) (n := 9) (Nat.le_of_ble_eq_true rfl)
  rw [lg_entry_eq]
  generalize (lg_sl ([.ref b]) ++ List.replicate (9 - (lg_sl ([.ref b])).length) Slot.unset).toArray = ls at hl ⊢
  have hl : lv_has ls 9 [(0, .ref b)] := hl
  refine va_new (ci := 5) (fs := [.null, .null, .null, .null]) (C := RX5) (T := TX5) (N := 4) hx hb ht0 law_inX5 tyX5 tyX5_ok hown (hts _ zL_a) (hts _ zL_b) (hts _ zL_c) hK.1 hP hD hS hA rfl (fun j hj => by rcases (show j = 0 ∨ j = 1 ∨ j = 2 ∨ j = 3 by omega) with rfl | rfl | rfl | rfl <;> rfl) (Nat.le_of_ble_eq_true rfl) (Nat.le_of_ble_eq_true rfl) dL_law_0 (fun x H hP hD hS => ?_)
  have hP : va_P G.1 vwCl ([] ++ [(x, .inr (5, [.null, .null, .null, .null]))]) H := hP
  have hD : va_D (fun z : Nat => s.heap.size ≤ z) ([] ++ [(x, .inr (5, [.null, .null, .null, .null]))]) := hD
  refine lv_dup hx hb dL_law_3 rfl ?_
  refine z_callvR (va_runI (As := []) (rest := [.ref x]) ⟨hx, hb, hml, hown, hts⟩ (c_X5_init l G H.size x) (cwI 0 hts gL_law_X5_init rfl rfl rfl (hts _ zL_c) (hts _ zL_h) (hts _ zL_i) rfl (by decide +kernel) ⟨Nat.le_of_ble_eq_true rfl, Nat.le_of_ble_eq_true rfl⟩) (zSo hO hK (zP_right hP) (zD_right hD)) rfl rfl hl.1 rfl (lv_room (Nat.le_of_ble_eq_true rfl)) dL_law_4 ⟨Nat.le_of_ble_eq_true rfl, Nat.le_of_ble_eq_true rfl⟩) hP hD hS hA (fun u H locs hw hP hD hS => ?_)
  obtain ⟨ad, had, hax⟩ : ∃ ad : zAd, ad = (u.1, u.2.1, x, u.2.2.1.1, u.2.2.1.2, u.2.2.2.1.1, u.2.2.2.2.1, u.2.2.2.2.2) ∧ ad.2.2.1 = x := ⟨_, rfl, rfl⟩
  obtain ⟨D0, eD⟩ : ∃ D0 : zDc, D0 = (u.2.2.2.1.2, (0, fun _ => zS0), zS0, ((0, 0, 0, 0), (0, fun _ => 0), (0, fun _ => 0)), (0, fun _ => 0)) := ⟨_, rfl⟩
  have hP : va_P G.1 vwCl (wCl G ad D0) H := by rw [had, eD]; exact hP
  have hD : va_D (fun z : Nat => s.heap.size ≤ z) (wCl G ad D0) := by rw [had, eD]; exact hD
  clear had
  refine W.eq (g2 := F0 m 7 ls [.ref ad.2.2.1]) (by rw [hax]) ?_
  refine lv_astore_n (lv' := [(1, .ref ad.2.2.1), (0, .ref b)]) hx hb dL_law_7 rfl hl (by decide) rfl (fun ls hl => ?_)
  refine va_new (ci := 6) (fs := [.null, .null, .null, .int 0, .null, .int 0, .int 0, .null, .int 0, .null, .int 0, .int 0, .int 0]) (C := RX6) (T := TX6) (N := 13) hx hb ht0 law_inX6 tyX6 tyX6_ok hown (hts _ zL_d) (hts _ zL_e) (hts _ zL_f) hK.1 hP hD hS hA rfl (fun j hj => by rcases (show j = 0 ∨ j = 1 ∨ j = 2 ∨ j = 3 ∨ j = 4 ∨ j = 5 ∨ j = 6 ∨ j = 7 ∨ j = 8 ∨ j = 9 ∨ j = 10 ∨ j = 11 ∨ j = 12 by omega) with rfl | rfl | rfl | rfl | rfl | rfl | rfl | rfl | rfl | rfl | rfl | rfl | rfl <;> rfl) (Nat.le_of_ble_eq_true rfl) (Nat.le_of_ble_eq_true rfl) dL_law_8 (fun d0 H hP hD hS => ?_)
  refine lv_dup hx hb dL_law_11 rfl ?_
  refine z_callvR (va_runI (As := []) (rest := [.ref d0]) ⟨hx, hb, hml, hown, hts⟩ (c_X6_init l G H.size d0) (cwI 0 hts gL_law_X6_init rfl rfl rfl (hts _ zL_f) (hts _ zL_j) (hts _ zL_k) rfl (by decide +kernel) ⟨Nat.le_of_ble_eq_true rfl, Nat.le_of_ble_eq_true rfl⟩) (zS hK (zP_right hP) (zD_right hD)) rfl rfl hl.1 rfl (lv_room (Nat.le_of_ble_eq_true rfl)) dL_law_12 ⟨Nat.le_of_ble_eq_true rfl, Nat.le_of_ble_eq_true rfl⟩) hP hD hS hA (fun v H locs hw hP hD hS => ?_)
  obtain ⟨d, hd, hd00⟩ : ∃ d : Nat → Nat, d = (fun k => match k with | 0 => d0 | k + 1 => v (k + 1)) ∧ d 0 = d0 := ⟨_, rfl, rfl⟩
  obtain ⟨M0, eM⟩ : ∃ M0 : zRd, M0 = ((0, fun _ _ => 0), (sR0, fun _ => 0), (0, fun _ => 0), (0, fun _ => 0), (0, fun _ => 0), (0, 0), 0) := ⟨_, rfl⟩
  have hP : va_P G.1 vwCl (wCl G ad D0 ++ wMd G d M0) H := by rw [hd, eM]; exact hP
  have hD : va_D (fun z : Nat => s.heap.size ≤ z) (wCl G ad D0 ++ wMd G d M0) := by rw [hd, eM]; exact hD
  clear hd
  refine W.eq (g2 := F0 m 15 ls [.ref (d 0)]) (by rw [hd00]) ?_
  refine lv_astore_n (lv' := [(2, .ref (d 0)), (1, .ref ad.2.2.1), (0, .ref b)]) hx hb dL_law_15 rfl hl (by decide) rfl (fun ls hl => ?_)
  refine lv_iconst (v := 1) hx hb dL_law_16 (by decide) ?_
  refine z_newl (N := 1) hx hb (hts _ zL_g) hK hP hD hS hA (by decide +kernel) (Nat.le_of_ble_eq_true rfl) (Nat.le_of_ble_eq_true rfl) (Nat.le_of_ble_eq_true rfl) dL_law_17 (fun q H hP hD hS => ?_)
  have hP : va_P G.1 vwCl ((wO G q (fun _ => 0) ++ wCl G ad D0) ++ wMd G d M0) H := zP_perm z_ord hP
  have hD : va_D (fun z : Nat => s.heap.size ≤ z) ((wO G q (fun _ => 0) ++ wCl G ad D0) ++ wMd G d M0) := zD_perm z_ord hD
  refine lv_astore_n (lv' := [(3, .ref q), (2, .ref (d 0)), (1, .ref ad.2.2.1), (0, .ref b)]) hx hb dL_law_19 rfl hl (by decide) rfl (fun ls hl => ?_)
  refine lv_iconst (v := 0) hx hb dL_law_20 (by decide) ?_
  refine z_top (show (0 : Int32) = nI (5 * 0) from nI_0.symm) ?_
  refine lv_istore (lv' := [(4, .int (nI (5 * 0))), (3, .ref q), (2, .ref (d 0)), (1, .ref ad.2.2.1), (0, .ref b)]) hx hb dL_law_21 hl (by decide) rfl (fun ls hl => ?_)
  refine W.widen (k := 100 + 0) (n := 2000 + 6 * 0) (by omega) (by omega) ?_
  refine W.base ?_
  exact law_loop hl0 CX hr hlocks (L + 1) 0 (by omega) (by omega) D0 M0 (fun _ => 0) s.drawn H _ ls (Drawn.sameBut.refl s.drawn lw_cs) (by rw [eD, eM]; exact relA_0) hP hD hS hl
end START
