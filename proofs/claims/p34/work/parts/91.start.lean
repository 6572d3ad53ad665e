/-! ===== the law from its entry ===== -/
section START
theorem zA_int {args : Array Value} {s : State} (h : (Cond.arrayClass .int).before args s = true) : ∃ cA, ArrOfT s cA .int ∧ va_RA s cA .int := by
  obtain ⟨cA, kA, comp, h1, h2, h3⟩ := Cond.arrayClass_spec h
  exact ⟨cA, fun n z => ⟨fun k h => (by cases h), kA, h2, comp, h3⟩, h1⟩
theorem zA_obj {args : Array Value} {s : State} {C : String} (h : (Cond.arrayOver (.object C)).before args s = true) : ∃ cA, ArrOfT s cA (.object C) ∧ va_RA s cA (.object C) := by
  obtain ⟨comp, cA, kA, h1, h2, h3, h4, h5⟩ := Cond.arrayOver_spec h
  exact ⟨cA, fun n z => ⟨fun k h => (by cases h), kA, h3, comp, h4⟩, kA, comp, h3, h4, h1, h5⟩
theorem zR_str {args : Array Value} {s : State} {own tx : String} {k : Nat} {cc : ClassId} (hown : s.vm.findClass own = some cc) (h : (Cond.stringRef own k tx).before args s = true) : ∃ a, vk_R own k tx a s := by
  have h0 : (Cond.stringRef own k tx).before #[] s = true := h
  obtain ⟨-, -, -, sa, -, -, -, -, -, hev⟩ := Cond.stringRef_spec hown h0
  exact ⟨sa, h0, hev⟩
theorem zN_f : ∀ q ∈ zNF, Cond.fieldLinkNest q.1 q.2.1 q.2.2.1 q.2.2.2.1 q.2.2.2.2.1 q.2.2.2.2.2 ∈ lw_tbl := by decide +kernel
theorem zN_m : ∀ q ∈ zNM, Cond.methodLinkNest q.1 q.2.1 q.2.2.1 q.2.2.2 ∈ lw_tbl := by decide +kernel
theorem zN_s : ∀ q ∈ zS6, Cond.stringRef "LightReceiver" q.2.1 q.2.2 ∈ lw_tbl := by decide +kernel
theorem zN_i : Cond.arrayClass .int ∈ lw_tbl := by decide +kernel
theorem zN_o : Cond.arrayOver (.object RX4) ∈ lw_tbl := by decide +kernel
theorem zN_X0 : Cond.instantiable RX0 6 ∈ lw_tbl := by decide +kernel
theorem zN_X1 : Cond.instantiable RX1 1 ∈ lw_tbl := by decide +kernel
theorem zN_X2 : Cond.instantiable RX2 2 ∈ lw_tbl := by decide +kernel
theorem zN_X3 : Cond.instantiable RX3 2 ∈ lw_tbl := by decide +kernel
theorem zN_X4 : Cond.instantiable RX4 14 ∈ lw_tbl := by decide +kernel
theorem zN_X5 : Cond.instantiable RX5 4 ∈ lw_tbl := by decide +kernel
theorem zL_a : Cond.classLink RL 15 RX5 ∈ wsL_law := by decide +kernel
theorem zL_b : Cond.instantiable RX5 4 ∈ wsL_law := by decide +kernel
theorem zL_c : Cond.initialized RX5 ∈ wsL_law := by decide +kernel
theorem zL_h : Cond.methodLink RL 98 yX5_init ∈ wsL_law := by decide +kernel
theorem zL_i : Cond.instanceMethod yX5_init ∈ wsL_law := by decide +kernel
/-- the classes, arrays, links and texts that all contracts share -/
theorem zK_of {s : State} {args : Array Value} (h : ∀ w ∈ lw_tbl, w.before args s = true) : ∃ G : zG, zK G s := by
  obtain ⟨c0, i0, hK0⟩ := u_known (C := RX0) (T := TX0) (N := 6) (n := 6) h law_inX0 (h _ zN_X0)
  obtain ⟨c1, i1, hK1⟩ := u_known (C := RX1) (T := TX1) (N := 1) (n := 1) h law_inX1 (h _ zN_X1)
  obtain ⟨c2, i2, hK2⟩ := u_known (C := RX2) (T := TX2) (N := 2) (n := 2) h law_inX2 (h _ zN_X2)
  obtain ⟨c3, i3, hK3⟩ := u_known (C := RX3) (T := TX3) (N := 2) (n := 2) h law_inX3 (h _ zN_X3)
  obtain ⟨c4, i4, hK4⟩ := u_known (C := RX4) (T := TX4) (N := 14) (n := 14) h law_inX4 (h _ zN_X4)
  obtain ⟨c5, i5, hK5⟩ := u_known (C := RX5) (T := TX5) (N := 4) (n := 4) h law_inX5 (h _ zN_X5)
  obtain ⟨dI, dI1, dI2⟩ := zA_int (h _ zN_i)
  obtain ⟨dS, dS1, dS2⟩ := zA_obj (h _ zN_o)
  obtain ⟨s0, hs0⟩ := zR_str hK5.2.1 (h _ (zN_s _ (List.mem_of_getElem? (i := 0) rfl)))
  obtain ⟨s1, hs1⟩ := zR_str hK5.2.1 (h _ (zN_s _ (List.mem_of_getElem? (i := 1) rfl)))
  obtain ⟨s2, hs2⟩ := zR_str hK5.2.1 (h _ (zN_s _ (List.mem_of_getElem? (i := 2) rfl)))
  obtain ⟨s3, hs3⟩ := zR_str hK5.2.1 (h _ (zN_s _ (List.mem_of_getElem? (i := 3) rfl)))
  obtain ⟨s4, hs4⟩ := zR_str hK5.2.1 (h _ (zN_s _ (List.mem_of_getElem? (i := 4) rfl)))
  refine ⟨((fun k => match k with | 0 => c0 | 1 => c1 | 2 => c2 | 3 => c3 | 4 => c4 | _ => c5, fun k => match k with | 0 => i0 | 1 => i1 | 2 => i2 | 3 => i3 | 4 => i4 | _ => i5), fun k => match k with | 0 => dI | _ => dS, fun k => match k with | 0 => s0 | 1 => s1 | 3 => s2 | 4 => s3 | _ => s4), ⟨?_, ?_⟩, fun q hq => va_Nw.of rfl (h _ (zN_f q hq)), fun q hq => va_Nw.of rfl (h _ (zN_m q hq)), ?_⟩
  · intro k q hq
    match k, hq with
    | 0, hq => cases hq; exact hK0
    | 1, hq => cases hq; exact hK1
    | 2, hq => cases hq; exact hK2
    | 3, hq => cases hq; exact hK3
    | 4, hq => cases hq; exact hK4
    | 5, hq => cases hq; exact hK5
    | k + 6, hq => cases hq
  · intro k q hq
    match k, hq with
    | 0, hq => cases hq; exact ⟨dI1, dI2⟩
    | 1, hq => cases hq; exact ⟨dS1, dS2⟩
    | k + 2, hq => cases hq
  · exact List.forall_mem_cons.mpr ⟨hs0, List.forall_mem_cons.mpr ⟨hs1, List.forall_mem_cons.mpr ⟨hs2, List.forall_mem_cons.mpr ⟨hs3, List.forall_mem_cons.mpr ⟨hs4, fun _ z => absurd z List.not_mem_nil⟩⟩⟩⟩⟩
set_option maxRecDepth 100000 in
set_option maxHeartbeats 4000000 in
/-- the law, from its entry -/
theorem whole_start {p : Program} {e : Env} {s : State} {m : MethodId} {below : List Frame} {meth : Method} {c : Code} (l : Launch) (hflags : l.flags = flags0) {b L : Nat} {xs : Nat → Int32} (hL : L ≤ 260) (C0 : lw_At p s m meth c b L xs) : W p l e room_1 s m #[Value.ref b] below meth c s.heap [] 0 0 (lw_Z below #[Value.ref b] s) (entryFrame m ([Value.ref b] : List Value).toArray 7) := by
  obtain ⟨hx, hb, hr, hml, hown, ht0, hX, hbl, hlocks, hgv⟩ := C0
  have hown : s.vm.findClass RL = some m.cls := hown
  have hb : c.code = cL_law := hb
  have hts : ∀ w ∈ wsL_law, w.before #[Value.ref b] s = true := fun w h => ht0 w (wsL_law_in w h)
  have hA : ∀ z : Nat, s.heap.size ≤ z → (fun z : Nat => s.heap.size ≤ z) z := fun _ h => h
  have hbA : ¬ (fun z : Nat => s.heap.size ≤ z) b := Nat.not_le.mpr hbl
  obtain ⟨G, hK⟩ := zK_of ht0
  have hO : va_AO RX4 s := va_AO.of (ht0 _ zN_o)
  have CX : lwY p s m c b L xs G (fun z : Nat => s.heap.size ≤ z) := ⟨hx, hb, hml, hown, hts, hX, hbl, hbA, hK, hA, hL⟩
  have hS : va_S (fun z : Nat => s.heap.size ≤ z) s.heap s.heap [] := va_S.rf
  have hP : va_P G.1 vwCl [] s.heap := fun k q h => by cases h
  have hD : va_D (fun z : Nat => s.heap.size ≤ z) [] := ⟨fun i j p q h => (by cases h), fun k q h => (by cases h)⟩
  have hl := lv_entry ([.ref b]) (n := 7) (Nat.le_of_ble_eq_true rfl)
  rw [lg_entry_eq]
  generalize (lg_sl ([.ref b]) ++ List.replicate (7 - (lg_sl ([.ref b])).length) Slot.unset).toArray = ls at hl ⊢
  have hl : lv_has ls 7 [(0, .ref b)] := hl
  refine va_new (ci := 5) (fs := [.null, .null, .null, .null]) (C := RX5) (T := TX5) (N := 4) hx hb ht0 law_inX5 tyX5 tyX5_ok hown (hts _ zL_a) (hts _ zL_b) (hts _ zL_c) hK.1 hP hD hS hA rfl (fun j hj => by rcases (show j = 0 ∨ j = 1 ∨ j = 2 ∨ j = 3 by omega) with rfl | rfl | rfl | rfl <;> rfl) (Nat.le_of_ble_eq_true rfl) (Nat.le_of_ble_eq_true rfl) dL_law_0 (fun x H hP hD hS => ?_)
  have hP : va_P G.1 vwCl ([] ++ [(x, .inr (5, [.null, .null, .null, .null]))]) H := hP
  have hD : va_D (fun z : Nat => s.heap.size ≤ z) ([] ++ [(x, .inr (5, [.null, .null, .null, .null]))]) := hD
  refine lv_dup hx hb dL_law_3 rfl ?_
  refine z_callvR (va_runI (As := []) (rest := [.ref x]) ⟨hx, hb, hml, hown, hts⟩ (c_X5_init l G H.size x) (cwI 0 hts gL_law_X5_init rfl rfl rfl (hts _ zL_c) (hts _ zL_h) (hts _ zL_i) rfl (by decide +kernel) ⟨Nat.le_of_ble_eq_true rfl, Nat.le_of_ble_eq_true rfl⟩) (zSo hO hK (zP_right hP) (zD_right hD)) rfl rfl hl.1 rfl (lv_room (Nat.le_of_ble_eq_true rfl)) dL_law_4 ⟨Nat.le_of_ble_eq_true rfl, Nat.le_of_ble_eq_true rfl⟩) hP hD hS hA (fun u H locs hw hP hD hS => ?_)
  obtain ⟨ad, had, hax⟩ : ∃ ad : zAd, ad = (u.1, u.2.1, x, u.2.2.1.1, u.2.2.1.2, u.2.2.2.1.1, u.2.2.2.2.1, u.2.2.2.2.2) ∧ ad.2.2.1 = x := ⟨_, rfl, rfl⟩
  obtain ⟨D0, eD⟩ : ∃ D0 : zDc, D0 = (u.2.2.2.1.2, (0, fun _ => zS0), zS0, ((0, 0, 0, 0), (0, fun _ => 0), (0, fun _ => 0)), (0, fun _ => 0)) := ⟨_, rfl⟩
  have hP : va_P G.1 vwCl (wCl G ad D0) H := by rw [had, eD]; exact hP
  have hD : va_D (fun z : Nat => s.heap.size ≤ z) (wCl G ad D0) := by rw [had, eD]; exact hD
  clear had
  refine W.eq (g2 := F0 m 7 ls [.ref ad.2.2.1]) (by rw [hax]) ?_
  refine lv_astore_n (lv' := [(1, .ref ad.2.2.1), (0, .ref b)]) hx hb dL_law_7 rfl hl (by decide) rfl (fun ls hl => ?_)
  refine lv_iconst (v := 0) hx hb dL_law_8 (by decide) ?_
  refine lv_istore_n (lv' := [(2, .int 0), (1, .ref ad.2.2.1), (0, .ref b)]) hx hb dL_law_9 rfl hl (by decide) rfl (fun ls hl => ?_)
  refine lv_iconst (v := 0) hx hb dL_law_10 (by decide) ?_
  refine lv_istore_n (lv' := [(3, .int 0), (2, .int 0), (1, .ref ad.2.2.1), (0, .ref b)]) hx hb dL_law_11 rfl hl (by decide) rfl (fun ls hl => ?_)
  refine W.widen (k := 100) (n := 2000) (by omega) (by omega) ?_
  refine W.base ?_
  exact law_loop CX hr hlocks 53 0 (by omega) (by omega) D0 N0 0 s.drawn H _ ls (Drawn.sameBut.refl s.drawn lw_cs) (by rw [eD]; exact J_0) (by omega) (Nat.zero_le _) hP hD hS (lv_sub hl [3, 2, 1, 0] rfl)
end START
