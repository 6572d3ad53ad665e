section WRAP
set_option maxRecDepth 100000 in
theorem wk_frame (l : Launch) (G : zG) (sz x q : Nat) (fs : List Value) (ov : Nat → Int64) (p0 p1 p2 p3 : Int32) {post : Int32 → zDc → Prop} {WC : va_W} {w1 : zDc → va_W} {rm : Room} (h0 : WC[0]? = some (x, .inr (5, fs))) (hr : rm.cells = 0 ∧ rm.slots = 0 ∧ rm.frames + 1 ≤ 10 ∧ 8 + (5 + 11) + rm.locals ≤ 300) (hM : ∀ z, zMi l yX5_frame wsX5_frame rm [.ref x, .int p0, .int p1, .int p2, .int p3] G WC post w1 z 0 0) : zMe l yL_frame wsL_frame zRW [.ref x, .int p0, .int p1, .int p2, .int p3, .ref q] G (wO G q ov ++ WC) (fun v (u : zDc × (Nat → Int64)) => v = 0 ∧ ∃ r, post r u.1 ∧ u.2 0 = r.toInt64) (fun u => wO G q u.2 ++ w1 u.1) sz 1 6 := by
  refine zMe_of (cc := cL_frame) (maxL := 7) (ret := (some .int)) (hh := [(0, 14, 17, 13)]) (by decide) rfl (Nat.le_of_ble_eq_true rfl) ?_
  intro p e s m args below meth c A ls hx hb hr9 hml hts hown hlocks hnm hK hP hD hAe hS hA hl hsz hZ hN hte
  have hown : s.vm.findClass RL = some m.cls := hown
  have hl : lv_has ls 7 [(0, .ref x), (1, .int p0), (2, .int p1), (3, .int p2), (4, .int p3), (5, .ref q)] := hl
  refine lv_aload hx hb dL_frame_0 (lv_at hl 5 rfl) ?_
  refine lv_iconst (v := 0) hx hb dL_frame_2 (by decide) ?_
  refine lv_aload_n hx hb dL_frame_3 rfl (lv_at hl 0 rfl) ?_
  refine lv_iload_n hx hb dL_frame_4 rfl (lv_at hl 1 rfl) ?_
  refine lv_iload_n hx hb dL_frame_5 rfl (lv_at hl 2 rfl) ?_
  refine lv_iload_n hx hb dL_frame_6 rfl (lv_at hl 3 rfl) ?_
  refine lv_iload hx hb dL_frame_7 (lv_at hl 4 rfl) ?_
  have hPc := zP_right hP
  have hDc := zD_right hD
  refine z_calliR (va_runV (As := [.int p0, .int p1, .int p2, .int p3]) (rest := [.int 0, .ref q]) ⟨hx, hb, hml, hown, hts⟩ (hM s.heap.size) (cwV 4 hts gL_frame_X5_frame rfl hr.1 hr.2.1 (by decide +kernel) ⟨hr.2.2.1, hr.2.2.2⟩) (zV (ci := 5) (q0 := 0) hK hPc hDc rfl h0) rfl rfl hl.1 rfl (lv_room (Nat.le_of_ble_eq_true rfl)) dL_frame_9 ⟨(Nat.le_of_ble_eq_true rfl), (Nat.le_of_ble_eq_true rfl)⟩) hP hD hS hA (fun r u H locs hw hP hD hS => ?_)
  refine lv_i2l hx hb dL_frame_12 rfl ?_
  refine z_last hx hb hK hP hD hS dL_frame_13 (fun ow H locs how hP hD hS => ?_)
  refine lv_goto (tgt := 21) hx hb dL_frame_14 (by decide) ?_
  refine lv_iconst (v := 0) hx hb dL_frame_21 (by decide) ?_
  exact z_iret hx hb hr9 rfl hlocks (u, ow) hP hD hS (Nat.le_of_ble_eq_true rfl) (Nat.le_of_ble_eq_true rfl) dL_frame_22 ⟨rfl, r, hw, how⟩
theorem zw_L_frame_c13 : Cond.classLink RL 13 "java/lang/IllegalArgumentException" ∈ wsL_frame := by decide +kernel
set_option maxRecDepth 100000 in
theorem wx_frame_1 (l : Launch) (G : zG) (sz x q : Nat) (fs : List Value) (ov : Nat → Int64) (p0 p1 p2 p3 : Int32) {WC : va_W} {rm : Room} (h0 : WC[0]? = some (x, .inr (5, fs))) (hr : rm.cells = 1 ∧ rm.slots = 6 ∧ rm.frames + 1 ≤ 10 ∧ 8 + (5 + 11) + rm.locals ≤ 300) (hM : ∀ z, zMx zNi l yX5_frame wsX5_frame rm [.ref x, .int p0, .int p1, .int p2, .int p3] G WC "java/lang/IllegalArgumentException" z) : zMe l yL_frame wsL_frame zRW [.ref x, .int p0, .int p1, .int p2, .int p3, .ref q] G (wO G q ov ++ WC) (fun v (_ : Unit) => v = 1) (fun _ => wO G q ov ++ WC) sz 1 6 := by
  refine zMe_of (cc := cL_frame) (maxL := 7) (ret := (some .int)) (hh := [(0, 14, 17, 13)]) (by decide) rfl (Nat.le_of_ble_eq_true rfl) ?_
  intro p e s m args below meth c A ls hx hb hr9 hml hts hown hlocks hnm hK hP hD hAe hS hA hl hsz hZ hN hte
  have hown : s.vm.findClass RL = some m.cls := hown
  have hl : lv_has ls 7 [(0, .ref x), (1, .int p0), (2, .int p1), (3, .int p2), (4, .int p3), (5, .ref q)] := hl
  refine lv_aload hx hb dL_frame_0 (lv_at hl 5 rfl) ?_
  refine lv_iconst (v := 0) hx hb dL_frame_2 (by decide) ?_
  refine lv_aload_n hx hb dL_frame_3 rfl (lv_at hl 0 rfl) ?_
  refine lv_iload_n hx hb dL_frame_4 rfl (lv_at hl 1 rfl) ?_
  refine lv_iload_n hx hb dL_frame_5 rfl (lv_at hl 2 rfl) ?_
  refine lv_iload_n hx hb dL_frame_6 rfl (lv_at hl 3 rfl) ?_
  refine lv_iload hx hb dL_frame_7 (lv_at hl 4 rfl) ?_
  have hPc := zP_right hP
  have hDc := zD_right hD
  refine z_callX (vx_runV (As := [.int p0, .int p1, .int p2, .int p3]) (rest := [.int 0, .ref q]) ⟨hx, hb, hml, hown, hts⟩ (hM s.heap.size) (cwV 4 hts gL_frame_X5_frame rfl hr.1 hr.2.1 (by decide +kernel) ⟨hr.2.2.1, hr.2.2.2⟩) (zVx (ci := 5) (q0 := 0) hK hPc hDc hS hZ hA rfl h0) rfl rfl hl.1 rfl (lv_room (Nat.le_of_ble_eq_true rfl)) dL_frame_9 ⟨(Nat.le_of_ble_eq_true rfl), (Nat.le_of_ble_eq_true rfl)⟩) hP hD hS hA (fun ce q9 H locs hP hD hS hce hcv hcl => ?_)
  refine vx_catch (name := "java/lang/IllegalArgumentException") hown [] ⟨0, 14, 17, 13⟩ [] hte (fun z hz => absurd hz List.not_mem_nil) (by decide) (by decide) (hts _ zw_L_frame_c13) (va_Nw.use rfl (hZ.2.2.1 "java/lang/IllegalArgumentException" (by decide +kernel))) hce hcv hcl ?_
  refine W.eq (g2 := F0 m 17 ls [.ref q9]) rfl ?_
  refine lv_astore (lv' := [(6, .ref q9), (0, .ref x), (1, .int p0), (2, .int p1), (3, .int p2), (4, .int p3), (5, .ref q)]) hx hb dL_frame_17 hl (by decide) rfl (fun ls hl => ?_)
  refine lv_iconst (v := 1) hx hb dL_frame_19 (by decide) ?_
  exact z_iret hx hb hr9 rfl hlocks () hP hD hS (Nat.le_of_ble_eq_true rfl) (Nat.le_of_ble_eq_true rfl) dL_frame_20 rfl
set_option maxRecDepth 100000 in
theorem wk_repeat (l : Launch) (G : zG) (sz x q : Nat) (fs : List Value) (ov : Nat → Int64) (p0 : Int32) {post : Int32 → zDc → Prop} {WC : va_W} {w1 : zDc → va_W} {rm : Room} (h0 : WC[0]? = some (x, .inr (5, fs))) (hr : rm.cells = 0 ∧ rm.slots = 0 ∧ rm.frames + 1 ≤ 10 ∧ 8 + (2 + 11) + rm.locals ≤ 300) (hM : ∀ z, zMi l yX5_repeat wsX5_repeat rm [.ref x, .int p0] G WC post w1 z 0 0) : zMe l yL_repeat wsL_repeat zRW [.ref x, .int p0, .ref q] G (wO G q ov ++ WC) (fun v (u : zDc × (Nat → Int64)) => v = 0 ∧ ∃ r, post r u.1 ∧ u.2 0 = r.toInt64) (fun u => wO G q u.2 ++ w1 u.1) sz 1 6 := by
  refine zMe_of (cc := cL_repeat) (maxL := 4) (ret := (some .int)) (hh := [(0, 9, 12, 13)]) (by decide) rfl (Nat.le_of_ble_eq_true rfl) ?_
  intro p e s m args below meth c A ls hx hb hr9 hml hts hown hlocks hnm hK hP hD hAe hS hA hl hsz hZ hN hte
  have hown : s.vm.findClass RL = some m.cls := hown
  have hl : lv_has ls 4 [(0, .ref x), (1, .int p0), (2, .ref q)] := hl
  refine lv_aload_n hx hb dL_repeat_0 rfl (lv_at hl 2 rfl) ?_
  refine lv_iconst (v := 0) hx hb dL_repeat_1 (by decide) ?_
  refine lv_aload_n hx hb dL_repeat_2 rfl (lv_at hl 0 rfl) ?_
  refine lv_iload_n hx hb dL_repeat_3 rfl (lv_at hl 1 rfl) ?_
  have hPc := zP_right hP
  have hDc := zD_right hD
  refine z_calliR (va_runV (As := [.int p0]) (rest := [.int 0, .ref q]) ⟨hx, hb, hml, hown, hts⟩ (hM s.heap.size) (cwV 1 hts gL_repeat_X5_repeat rfl hr.1 hr.2.1 (by decide +kernel) ⟨hr.2.2.1, hr.2.2.2⟩) (zV (ci := 5) (q0 := 0) hK hPc hDc rfl h0) rfl rfl hl.1 rfl (lv_room (Nat.le_of_ble_eq_true rfl)) dL_repeat_4 ⟨(Nat.le_of_ble_eq_true rfl), (Nat.le_of_ble_eq_true rfl)⟩) hP hD hS hA (fun r u H locs hw hP hD hS => ?_)
  refine lv_i2l hx hb dL_repeat_7 rfl ?_
  refine z_last hx hb hK hP hD hS dL_repeat_8 (fun ow H locs how hP hD hS => ?_)
  refine lv_goto (tgt := 15) hx hb dL_repeat_9 (by decide) ?_
  refine lv_iconst (v := 0) hx hb dL_repeat_15 (by decide) ?_
  exact z_iret hx hb hr9 rfl hlocks (u, ow) hP hD hS (Nat.le_of_ble_eq_true rfl) (Nat.le_of_ble_eq_true rfl) dL_repeat_16 ⟨rfl, r, hw, how⟩
theorem zw_L_repeat_c13 : Cond.classLink RL 13 "java/lang/IllegalArgumentException" ∈ wsL_repeat := by decide +kernel
set_option maxRecDepth 100000 in
theorem wx_repeat_1 (l : Launch) (G : zG) (sz x q : Nat) (fs : List Value) (ov : Nat → Int64) (p0 : Int32) {WC : va_W} {rm : Room} (h0 : WC[0]? = some (x, .inr (5, fs))) (hr : rm.cells = 1 ∧ rm.slots = 6 ∧ rm.frames + 1 ≤ 10 ∧ 8 + (2 + 11) + rm.locals ≤ 300) (hM : ∀ z, zMx zNi l yX5_repeat wsX5_repeat rm [.ref x, .int p0] G WC "java/lang/IllegalArgumentException" z) : zMe l yL_repeat wsL_repeat zRW [.ref x, .int p0, .ref q] G (wO G q ov ++ WC) (fun v (_ : Unit) => v = 1) (fun _ => wO G q ov ++ WC) sz 1 6 := by
  refine zMe_of (cc := cL_repeat) (maxL := 4) (ret := (some .int)) (hh := [(0, 9, 12, 13)]) (by decide) rfl (Nat.le_of_ble_eq_true rfl) ?_
  intro p e s m args below meth c A ls hx hb hr9 hml hts hown hlocks hnm hK hP hD hAe hS hA hl hsz hZ hN hte
  have hown : s.vm.findClass RL = some m.cls := hown
  have hl : lv_has ls 4 [(0, .ref x), (1, .int p0), (2, .ref q)] := hl
  refine lv_aload_n hx hb dL_repeat_0 rfl (lv_at hl 2 rfl) ?_
  refine lv_iconst (v := 0) hx hb dL_repeat_1 (by decide) ?_
  refine lv_aload_n hx hb dL_repeat_2 rfl (lv_at hl 0 rfl) ?_
  refine lv_iload_n hx hb dL_repeat_3 rfl (lv_at hl 1 rfl) ?_
  have hPc := zP_right hP
  have hDc := zD_right hD
  refine z_callX (vx_runV (As := [.int p0]) (rest := [.int 0, .ref q]) ⟨hx, hb, hml, hown, hts⟩ (hM s.heap.size) (cwV 1 hts gL_repeat_X5_repeat rfl hr.1 hr.2.1 (by decide +kernel) ⟨hr.2.2.1, hr.2.2.2⟩) (zVx (ci := 5) (q0 := 0) hK hPc hDc hS hZ hA rfl h0) rfl rfl hl.1 rfl (lv_room (Nat.le_of_ble_eq_true rfl)) dL_repeat_4 ⟨(Nat.le_of_ble_eq_true rfl), (Nat.le_of_ble_eq_true rfl)⟩) hP hD hS hA (fun ce q9 H locs hP hD hS hce hcv hcl => ?_)
  refine vx_catch (name := "java/lang/IllegalArgumentException") hown [] ⟨0, 9, 12, 13⟩ [] hte (fun z hz => absurd hz List.not_mem_nil) (by decide) (by decide) (hts _ zw_L_repeat_c13) (va_Nw.use rfl (hZ.2.2.1 "java/lang/IllegalArgumentException" (by decide +kernel))) hce hcv hcl ?_
  refine W.eq (g2 := F0 m 12 ls [.ref q9]) rfl ?_
  refine lv_astore_n (lv' := [(3, .ref q9), (0, .ref x), (1, .int p0), (2, .ref q)]) hx hb dL_repeat_12 rfl hl (by decide) rfl (fun ls hl => ?_)
  refine lv_iconst (v := 1) hx hb dL_repeat_13 (by decide) ?_
  exact z_iret hx hb hr9 rfl hlocks () hP hD hS (Nat.le_of_ble_eq_true rfl) (Nat.le_of_ble_eq_true rfl) dL_repeat_14 rfl
set_option maxRecDepth 100000 in
theorem wk_receive (l : Launch) (G : zG) (sz x q : Nat) (fs : List Value) (ov : Nat → Int64) (p0 : Int32) {post : Int32 → zDc → Prop} {WC : va_W} {w1 : zDc → va_W} {rm : Room} (h0 : WC[0]? = some (x, .inr (5, fs))) (hr : rm.cells = 0 ∧ rm.slots = 0 ∧ rm.frames + 1 ≤ 10 ∧ 8 + (2 + 11) + rm.locals ≤ 300) (hM : ∀ z, zMi l yX5_receive wsX5_receive rm [.ref x, .int p0] G WC post w1 z 0 0) : zMe l yL_receive wsL_receive zRW [.ref x, .int p0, .ref q] G (wO G q ov ++ WC) (fun v (u : zDc × (Nat → Int64)) => v = 0 ∧ ∃ r, post r u.1 ∧ u.2 0 = r.toInt64) (fun u => wO G q u.2 ++ w1 u.1) sz 1 6 := by
  refine zMe_of (cc := cL_receive) (maxL := 4) (ret := (some .int)) (hh := [(0, 9, 12, 13), (0, 9, 15, 22)]) (by decide) rfl (Nat.le_of_ble_eq_true rfl) ?_
  intro p e s m args below meth c A ls hx hb hr9 hml hts hown hlocks hnm hK hP hD hAe hS hA hl hsz hZ hN hte
  have hown : s.vm.findClass RL = some m.cls := hown
  have hl : lv_has ls 4 [(0, .ref x), (1, .int p0), (2, .ref q)] := hl
  refine lv_aload_n hx hb dL_receive_0 rfl (lv_at hl 2 rfl) ?_
  refine lv_iconst (v := 0) hx hb dL_receive_1 (by decide) ?_
  refine lv_aload_n hx hb dL_receive_2 rfl (lv_at hl 0 rfl) ?_
  refine lv_iload_n hx hb dL_receive_3 rfl (lv_at hl 1 rfl) ?_
  have hPc := zP_right hP
  have hDc := zD_right hD
  refine z_calliR (va_runV (As := [.int p0]) (rest := [.int 0, .ref q]) ⟨hx, hb, hml, hown, hts⟩ (hM s.heap.size) (cwV 1 hts gL_receive_X5_receive rfl hr.1 hr.2.1 (by decide +kernel) ⟨hr.2.2.1, hr.2.2.2⟩) (zV (ci := 5) (q0 := 0) hK hPc hDc rfl h0) rfl rfl hl.1 rfl (lv_room (Nat.le_of_ble_eq_true rfl)) dL_receive_4 ⟨(Nat.le_of_ble_eq_true rfl), (Nat.le_of_ble_eq_true rfl)⟩) hP hD hS hA (fun r u H locs hw hP hD hS => ?_)
  refine lv_i2l hx hb dL_receive_7 rfl ?_
  refine z_last hx hb hK hP hD hS dL_receive_8 (fun ow H locs how hP hD hS => ?_)
  refine lv_goto (tgt := 18) hx hb dL_receive_9 (by decide) ?_
  refine lv_iconst (v := 0) hx hb dL_receive_18 (by decide) ?_
  exact z_iret hx hb hr9 rfl hlocks (u, ow) hP hD hS (Nat.le_of_ble_eq_true rfl) (Nat.le_of_ble_eq_true rfl) dL_receive_19 ⟨rfl, r, hw, how⟩
theorem zw_L_receive_c13 : Cond.classLink RL 13 "java/lang/IllegalArgumentException" ∈ wsL_receive := by decide +kernel
set_option maxRecDepth 100000 in
theorem wx_receive_1 (l : Launch) (G : zG) (sz x q : Nat) (fs : List Value) (ov : Nat → Int64) (p0 : Int32) {WC : va_W} {rm : Room} (h0 : WC[0]? = some (x, .inr (5, fs))) (hr : rm.cells = 1 ∧ rm.slots = 6 ∧ rm.frames + 1 ≤ 10 ∧ 8 + (2 + 11) + rm.locals ≤ 300) (hM : ∀ z, zMx zNi l yX5_receive wsX5_receive rm [.ref x, .int p0] G WC "java/lang/IllegalArgumentException" z) : zMe l yL_receive wsL_receive zRW [.ref x, .int p0, .ref q] G (wO G q ov ++ WC) (fun v (_ : Unit) => v = 1) (fun _ => wO G q ov ++ WC) sz 1 6 := by
  refine zMe_of (cc := cL_receive) (maxL := 4) (ret := (some .int)) (hh := [(0, 9, 12, 13), (0, 9, 15, 22)]) (by decide) rfl (Nat.le_of_ble_eq_true rfl) ?_
  intro p e s m args below meth c A ls hx hb hr9 hml hts hown hlocks hnm hK hP hD hAe hS hA hl hsz hZ hN hte
  have hown : s.vm.findClass RL = some m.cls := hown
  have hl : lv_has ls 4 [(0, .ref x), (1, .int p0), (2, .ref q)] := hl
  refine lv_aload_n hx hb dL_receive_0 rfl (lv_at hl 2 rfl) ?_
  refine lv_iconst (v := 0) hx hb dL_receive_1 (by decide) ?_
  refine lv_aload_n hx hb dL_receive_2 rfl (lv_at hl 0 rfl) ?_
  refine lv_iload_n hx hb dL_receive_3 rfl (lv_at hl 1 rfl) ?_
  have hPc := zP_right hP
  have hDc := zD_right hD
  refine z_callX (vx_runV (As := [.int p0]) (rest := [.int 0, .ref q]) ⟨hx, hb, hml, hown, hts⟩ (hM s.heap.size) (cwV 1 hts gL_receive_X5_receive rfl hr.1 hr.2.1 (by decide +kernel) ⟨hr.2.2.1, hr.2.2.2⟩) (zVx (ci := 5) (q0 := 0) hK hPc hDc hS hZ hA rfl h0) rfl rfl hl.1 rfl (lv_room (Nat.le_of_ble_eq_true rfl)) dL_receive_4 ⟨(Nat.le_of_ble_eq_true rfl), (Nat.le_of_ble_eq_true rfl)⟩) hP hD hS hA (fun ce q9 H locs hP hD hS hce hcv hcl => ?_)
  refine vx_catch (name := "java/lang/IllegalArgumentException") hown [] ⟨0, 9, 12, 13⟩ [⟨0, 9, 15, 22⟩] hte (fun z hz => absurd hz List.not_mem_nil) (by decide) (by decide) (hts _ zw_L_receive_c13) (va_Nw.use rfl (hZ.2.2.1 "java/lang/IllegalArgumentException" (by decide +kernel))) hce hcv hcl ?_
  refine W.eq (g2 := F0 m 12 ls [.ref q9]) rfl ?_
  refine lv_astore_n (lv' := [(3, .ref q9), (0, .ref x), (1, .int p0), (2, .ref q)]) hx hb dL_receive_12 rfl hl (by decide) rfl (fun ls hl => ?_)
  refine lv_iconst (v := 1) hx hb dL_receive_13 (by decide) ?_
  exact z_iret hx hb hr9 rfl hlocks () hP hD hS (Nat.le_of_ble_eq_true rfl) (Nat.le_of_ble_eq_true rfl) dL_receive_14 rfl
theorem zw_L_receive_c22 : Cond.classLink RL 22 "java/lang/IllegalStateException" ∈ wsL_receive := by decide +kernel
set_option maxRecDepth 100000 in
theorem wx_receive_2 (l : Launch) (G : zG) (sz x q : Nat) (fs : List Value) (ov : Nat → Int64) (p0 : Int32) {WC : va_W} {rm : Room} (h0 : WC[0]? = some (x, .inr (5, fs))) (hr : rm.cells = 1 ∧ rm.slots = 6 ∧ rm.frames + 1 ≤ 10 ∧ 8 + (2 + 11) + rm.locals ≤ 300) (hM : ∀ z, zMx zNi l yX5_receive wsX5_receive rm [.ref x, .int p0] G WC "java/lang/IllegalStateException" z) : zMe l yL_receive wsL_receive zRW [.ref x, .int p0, .ref q] G (wO G q ov ++ WC) (fun v (_ : Unit) => v = 2) (fun _ => wO G q ov ++ WC) sz 1 6 := by
  refine zMe_of (cc := cL_receive) (maxL := 4) (ret := (some .int)) (hh := [(0, 9, 12, 13), (0, 9, 15, 22)]) (by decide) rfl (Nat.le_of_ble_eq_true rfl) ?_
  intro p e s m args below meth c A ls hx hb hr9 hml hts hown hlocks hnm hK hP hD hAe hS hA hl hsz hZ hN hte
  have hown : s.vm.findClass RL = some m.cls := hown
  have hl : lv_has ls 4 [(0, .ref x), (1, .int p0), (2, .ref q)] := hl
  refine lv_aload_n hx hb dL_receive_0 rfl (lv_at hl 2 rfl) ?_
  refine lv_iconst (v := 0) hx hb dL_receive_1 (by decide) ?_
  refine lv_aload_n hx hb dL_receive_2 rfl (lv_at hl 0 rfl) ?_
  refine lv_iload_n hx hb dL_receive_3 rfl (lv_at hl 1 rfl) ?_
  have hPc := zP_right hP
  have hDc := zD_right hD
  refine z_callX (vx_runV (As := [.int p0]) (rest := [.int 0, .ref q]) ⟨hx, hb, hml, hown, hts⟩ (hM s.heap.size) (cwV 1 hts gL_receive_X5_receive rfl hr.1 hr.2.1 (by decide +kernel) ⟨hr.2.2.1, hr.2.2.2⟩) (zVx (ci := 5) (q0 := 0) hK hPc hDc hS hZ hA rfl h0) rfl rfl hl.1 rfl (lv_room (Nat.le_of_ble_eq_true rfl)) dL_receive_4 ⟨(Nat.le_of_ble_eq_true rfl), (Nat.le_of_ble_eq_true rfl)⟩) hP hD hS hA (fun ce q9 H locs hP hD hS hce hcv hcl => ?_)
  refine vx_catch (name := "java/lang/IllegalStateException") hown [⟨0, 9, 12, 13⟩] ⟨0, 9, 15, 22⟩ [] hte (fun z hz => by
    obtain rfl := List.mem_singleton.mp hz
    exact Or.inr ⟨by decide, "java/lang/IllegalArgumentException", hts _ zw_L_receive_c13, hN.1⟩) (by decide) (by decide) (hts _ zw_L_receive_c22) (va_Nw.use rfl (hZ.2.2.1 "java/lang/IllegalStateException" (by decide +kernel))) hce hcv hcl ?_
  refine W.eq (g2 := F0 m 15 ls [.ref q9]) rfl ?_
  refine lv_astore_n (lv' := [(3, .ref q9), (0, .ref x), (1, .int p0), (2, .ref q)]) hx hb dL_receive_15 rfl hl (by decide) rfl (fun ls hl => ?_)
  refine lv_iconst (v := 2) hx hb dL_receive_16 (by decide) ?_
  exact z_iret hx hb hr9 rfl hlocks () hP hD hS (Nat.le_of_ble_eq_true rfl) (Nat.le_of_ble_eq_true rfl) dL_receive_17 rfl
set_option maxRecDepth 100000 in
theorem wk_shine (l : Launch) (G : zG) (sz x q : Nat) (fs : List Value) (ov : Nat → Int64) (p0 : Int32) {post : Int32 → zDc → Prop} {WC : va_W} {w1 : zDc → va_W} {rm : Room} (h0 : WC[0]? = some (x, .inr (5, fs))) (hr : rm.cells = 0 ∧ rm.slots = 0 ∧ rm.frames + 1 ≤ 10 ∧ 8 + (2 + 11) + rm.locals ≤ 300) (hM : ∀ z, zMi l yX5_shine wsX5_shine rm [.ref x, .int p0] G WC post w1 z 0 0) : zMe l yL_shine wsL_shine zRW [.ref x, .int p0, .ref q] G (wO G q ov ++ WC) (fun v (u : zDc × (Nat → Int64)) => v = 0 ∧ ∃ r, post r u.1 ∧ u.2 0 = r.toInt64) (fun u => wO G q u.2 ++ w1 u.1) sz 1 6 := by
  refine zMe_of (cc := cL_shine) (maxL := 4) (ret := (some .int)) (hh := [(0, 9, 12, 13), (0, 9, 15, 22)]) (by decide) rfl (Nat.le_of_ble_eq_true rfl) ?_
  intro p e s m args below meth c A ls hx hb hr9 hml hts hown hlocks hnm hK hP hD hAe hS hA hl hsz hZ hN hte
  have hown : s.vm.findClass RL = some m.cls := hown
  have hl : lv_has ls 4 [(0, .ref x), (1, .int p0), (2, .ref q)] := hl
  refine lv_aload_n hx hb dL_shine_0 rfl (lv_at hl 2 rfl) ?_
  refine lv_iconst (v := 0) hx hb dL_shine_1 (by decide) ?_
  refine lv_aload_n hx hb dL_shine_2 rfl (lv_at hl 0 rfl) ?_
  refine lv_iload_n hx hb dL_shine_3 rfl (lv_at hl 1 rfl) ?_
  have hPc := zP_right hP
  have hDc := zD_right hD
  refine z_calliR (va_runV (As := [.int p0]) (rest := [.int 0, .ref q]) ⟨hx, hb, hml, hown, hts⟩ (hM s.heap.size) (cwV 1 hts gL_shine_X5_shine rfl hr.1 hr.2.1 (by decide +kernel) ⟨hr.2.2.1, hr.2.2.2⟩) (zV (ci := 5) (q0 := 0) hK hPc hDc rfl h0) rfl rfl hl.1 rfl (lv_room (Nat.le_of_ble_eq_true rfl)) dL_shine_4 ⟨(Nat.le_of_ble_eq_true rfl), (Nat.le_of_ble_eq_true rfl)⟩) hP hD hS hA (fun r u H locs hw hP hD hS => ?_)
  refine lv_i2l hx hb dL_shine_7 rfl ?_
  refine z_last hx hb hK hP hD hS dL_shine_8 (fun ow H locs how hP hD hS => ?_)
  refine lv_goto (tgt := 18) hx hb dL_shine_9 (by decide) ?_
  refine lv_iconst (v := 0) hx hb dL_shine_18 (by decide) ?_
  exact z_iret hx hb hr9 rfl hlocks (u, ow) hP hD hS (Nat.le_of_ble_eq_true rfl) (Nat.le_of_ble_eq_true rfl) dL_shine_19 ⟨rfl, r, hw, how⟩
theorem zw_L_shine_c13 : Cond.classLink RL 13 "java/lang/IllegalArgumentException" ∈ wsL_shine := by decide +kernel
set_option maxRecDepth 100000 in
theorem wx_shine_1 (l : Launch) (G : zG) (sz x q : Nat) (fs : List Value) (ov : Nat → Int64) (p0 : Int32) {WC : va_W} {rm : Room} (h0 : WC[0]? = some (x, .inr (5, fs))) (hr : rm.cells = 1 ∧ rm.slots = 6 ∧ rm.frames + 1 ≤ 10 ∧ 8 + (2 + 11) + rm.locals ≤ 300) (hM : ∀ z, zMx zNi l yX5_shine wsX5_shine rm [.ref x, .int p0] G WC "java/lang/IllegalArgumentException" z) : zMe l yL_shine wsL_shine zRW [.ref x, .int p0, .ref q] G (wO G q ov ++ WC) (fun v (_ : Unit) => v = 1) (fun _ => wO G q ov ++ WC) sz 1 6 := by
  refine zMe_of (cc := cL_shine) (maxL := 4) (ret := (some .int)) (hh := [(0, 9, 12, 13), (0, 9, 15, 22)]) (by decide) rfl (Nat.le_of_ble_eq_true rfl) ?_
  intro p e s m args below meth c A ls hx hb hr9 hml hts hown hlocks hnm hK hP hD hAe hS hA hl hsz hZ hN hte
  have hown : s.vm.findClass RL = some m.cls := hown
  have hl : lv_has ls 4 [(0, .ref x), (1, .int p0), (2, .ref q)] := hl
  refine lv_aload_n hx hb dL_shine_0 rfl (lv_at hl 2 rfl) ?_
  refine lv_iconst (v := 0) hx hb dL_shine_1 (by decide) ?_
  refine lv_aload_n hx hb dL_shine_2 rfl (lv_at hl 0 rfl) ?_
  refine lv_iload_n hx hb dL_shine_3 rfl (lv_at hl 1 rfl) ?_
  have hPc := zP_right hP
  have hDc := zD_right hD
  refine z_callX (vx_runV (As := [.int p0]) (rest := [.int 0, .ref q]) ⟨hx, hb, hml, hown, hts⟩ (hM s.heap.size) (cwV 1 hts gL_shine_X5_shine rfl hr.1 hr.2.1 (by decide +kernel) ⟨hr.2.2.1, hr.2.2.2⟩) (zVx (ci := 5) (q0 := 0) hK hPc hDc hS hZ hA rfl h0) rfl rfl hl.1 rfl (lv_room (Nat.le_of_ble_eq_true rfl)) dL_shine_4 ⟨(Nat.le_of_ble_eq_true rfl), (Nat.le_of_ble_eq_true rfl)⟩) hP hD hS hA (fun ce q9 H locs hP hD hS hce hcv hcl => ?_)
  refine vx_catch (name := "java/lang/IllegalArgumentException") hown [] ⟨0, 9, 12, 13⟩ [⟨0, 9, 15, 22⟩] hte (fun z hz => absurd hz List.not_mem_nil) (by decide) (by decide) (hts _ zw_L_shine_c13) (va_Nw.use rfl (hZ.2.2.1 "java/lang/IllegalArgumentException" (by decide +kernel))) hce hcv hcl ?_
  refine W.eq (g2 := F0 m 12 ls [.ref q9]) rfl ?_
  refine lv_astore_n (lv' := [(3, .ref q9), (0, .ref x), (1, .int p0), (2, .ref q)]) hx hb dL_shine_12 rfl hl (by decide) rfl (fun ls hl => ?_)
  refine lv_iconst (v := 1) hx hb dL_shine_13 (by decide) ?_
  exact z_iret hx hb hr9 rfl hlocks () hP hD hS (Nat.le_of_ble_eq_true rfl) (Nat.le_of_ble_eq_true rfl) dL_shine_14 rfl
theorem zw_L_shine_c22 : Cond.classLink RL 22 "java/lang/IllegalStateException" ∈ wsL_shine := by decide +kernel
set_option maxRecDepth 100000 in
theorem wx_shine_2 (l : Launch) (G : zG) (sz x q : Nat) (fs : List Value) (ov : Nat → Int64) (p0 : Int32) {WC : va_W} {rm : Room} (h0 : WC[0]? = some (x, .inr (5, fs))) (hr : rm.cells = 1 ∧ rm.slots = 6 ∧ rm.frames + 1 ≤ 10 ∧ 8 + (2 + 11) + rm.locals ≤ 300) (hM : ∀ z, zMx zNi l yX5_shine wsX5_shine rm [.ref x, .int p0] G WC "java/lang/IllegalStateException" z) : zMe l yL_shine wsL_shine zRW [.ref x, .int p0, .ref q] G (wO G q ov ++ WC) (fun v (_ : Unit) => v = 2) (fun _ => wO G q ov ++ WC) sz 1 6 := by
  refine zMe_of (cc := cL_shine) (maxL := 4) (ret := (some .int)) (hh := [(0, 9, 12, 13), (0, 9, 15, 22)]) (by decide) rfl (Nat.le_of_ble_eq_true rfl) ?_
  intro p e s m args below meth c A ls hx hb hr9 hml hts hown hlocks hnm hK hP hD hAe hS hA hl hsz hZ hN hte
  have hown : s.vm.findClass RL = some m.cls := hown
  have hl : lv_has ls 4 [(0, .ref x), (1, .int p0), (2, .ref q)] := hl
  refine lv_aload_n hx hb dL_shine_0 rfl (lv_at hl 2 rfl) ?_
  refine lv_iconst (v := 0) hx hb dL_shine_1 (by decide) ?_
  refine lv_aload_n hx hb dL_shine_2 rfl (lv_at hl 0 rfl) ?_
  refine lv_iload_n hx hb dL_shine_3 rfl (lv_at hl 1 rfl) ?_
  have hPc := zP_right hP
  have hDc := zD_right hD
  refine z_callX (vx_runV (As := [.int p0]) (rest := [.int 0, .ref q]) ⟨hx, hb, hml, hown, hts⟩ (hM s.heap.size) (cwV 1 hts gL_shine_X5_shine rfl hr.1 hr.2.1 (by decide +kernel) ⟨hr.2.2.1, hr.2.2.2⟩) (zVx (ci := 5) (q0 := 0) hK hPc hDc hS hZ hA rfl h0) rfl rfl hl.1 rfl (lv_room (Nat.le_of_ble_eq_true rfl)) dL_shine_4 ⟨(Nat.le_of_ble_eq_true rfl), (Nat.le_of_ble_eq_true rfl)⟩) hP hD hS hA (fun ce q9 H locs hP hD hS hce hcv hcl => ?_)
  refine vx_catch (name := "java/lang/IllegalStateException") hown [⟨0, 9, 12, 13⟩] ⟨0, 9, 15, 22⟩ [] hte (fun z hz => by
    obtain rfl := List.mem_singleton.mp hz
    exact Or.inr ⟨by decide, "java/lang/IllegalArgumentException", hts _ zw_L_shine_c13, hN.1⟩) (by decide) (by decide) (hts _ zw_L_shine_c22) (va_Nw.use rfl (hZ.2.2.1 "java/lang/IllegalStateException" (by decide +kernel))) hce hcv hcl ?_
  refine W.eq (g2 := F0 m 15 ls [.ref q9]) rfl ?_
  refine lv_astore_n (lv' := [(3, .ref q9), (0, .ref x), (1, .int p0), (2, .ref q)]) hx hb dL_shine_15 rfl hl (by decide) rfl (fun ls hl => ?_)
  refine lv_iconst (v := 2) hx hb dL_shine_16 (by decide) ?_
  exact z_iret hx hb hr9 rfl hlocks () hP hD hS (Nat.le_of_ble_eq_true rfl) (Nat.le_of_ble_eq_true rfl) dL_shine_17 rfl
set_option maxRecDepth 100000 in
theorem wk_pass (l : Launch) (G : zG) (sz x q : Nat) (fs : List Value) (ov : Nat → Int64) (p0 : Int32) {post : Int32 → zDc → Prop} {WC : va_W} {w1 : zDc → va_W} {rm : Room} (h0 : WC[0]? = some (x, .inr (5, fs))) (hr : rm.cells = 0 ∧ rm.slots = 0 ∧ rm.frames + 1 ≤ 10 ∧ 8 + (2 + 11) + rm.locals ≤ 300) (hM : ∀ z, zMi l yX5_pass wsX5_pass rm [.ref x, .int p0] G WC post w1 z 0 0) : zMe l yL_pass wsL_pass zRW [.ref x, .int p0, .ref q] G (wO G q ov ++ WC) (fun v (u : zDc × (Nat → Int64)) => v = 0 ∧ ∃ r, post r u.1 ∧ u.2 0 = r.toInt64) (fun u => wO G q u.2 ++ w1 u.1) sz 1 6 := by
  refine zMe_of (cc := cL_pass) (maxL := 4) (ret := (some .int)) (hh := [(0, 9, 12, 13)]) (by decide) rfl (Nat.le_of_ble_eq_true rfl) ?_
  intro p e s m args below meth c A ls hx hb hr9 hml hts hown hlocks hnm hK hP hD hAe hS hA hl hsz hZ hN hte
  have hown : s.vm.findClass RL = some m.cls := hown
  have hl : lv_has ls 4 [(0, .ref x), (1, .int p0), (2, .ref q)] := hl
  refine lv_aload_n hx hb dL_pass_0 rfl (lv_at hl 2 rfl) ?_
  refine lv_iconst (v := 0) hx hb dL_pass_1 (by decide) ?_
  refine lv_aload_n hx hb dL_pass_2 rfl (lv_at hl 0 rfl) ?_
  refine lv_iload_n hx hb dL_pass_3 rfl (lv_at hl 1 rfl) ?_
  have hPc := zP_right hP
  have hDc := zD_right hD
  refine z_calliR (va_runV (As := [.int p0]) (rest := [.int 0, .ref q]) ⟨hx, hb, hml, hown, hts⟩ (hM s.heap.size) (cwV 1 hts gL_pass_X5_pass rfl hr.1 hr.2.1 (by decide +kernel) ⟨hr.2.2.1, hr.2.2.2⟩) (zV (ci := 5) (q0 := 0) hK hPc hDc rfl h0) rfl rfl hl.1 rfl (lv_room (Nat.le_of_ble_eq_true rfl)) dL_pass_4 ⟨(Nat.le_of_ble_eq_true rfl), (Nat.le_of_ble_eq_true rfl)⟩) hP hD hS hA (fun r u H locs hw hP hD hS => ?_)
  refine lv_i2l hx hb dL_pass_7 rfl ?_
  refine z_last hx hb hK hP hD hS dL_pass_8 (fun ow H locs how hP hD hS => ?_)
  refine lv_goto (tgt := 15) hx hb dL_pass_9 (by decide) ?_
  refine lv_iconst (v := 0) hx hb dL_pass_15 (by decide) ?_
  exact z_iret hx hb hr9 rfl hlocks (u, ow) hP hD hS (Nat.le_of_ble_eq_true rfl) (Nat.le_of_ble_eq_true rfl) dL_pass_16 ⟨rfl, r, hw, how⟩
theorem zw_L_pass_c13 : Cond.classLink RL 13 "java/lang/IllegalArgumentException" ∈ wsL_pass := by decide +kernel
set_option maxRecDepth 100000 in
theorem wx_pass_1 (l : Launch) (G : zG) (sz x q : Nat) (fs : List Value) (ov : Nat → Int64) (p0 : Int32) {WC : va_W} {rm : Room} (h0 : WC[0]? = some (x, .inr (5, fs))) (hr : rm.cells = 1 ∧ rm.slots = 6 ∧ rm.frames + 1 ≤ 10 ∧ 8 + (2 + 11) + rm.locals ≤ 300) (hM : ∀ z, zMx zNi l yX5_pass wsX5_pass rm [.ref x, .int p0] G WC "java/lang/IllegalArgumentException" z) : zMe l yL_pass wsL_pass zRW [.ref x, .int p0, .ref q] G (wO G q ov ++ WC) (fun v (_ : Unit) => v = 1) (fun _ => wO G q ov ++ WC) sz 1 6 := by
  refine zMe_of (cc := cL_pass) (maxL := 4) (ret := (some .int)) (hh := [(0, 9, 12, 13)]) (by decide) rfl (Nat.le_of_ble_eq_true rfl) ?_
  intro p e s m args below meth c A ls hx hb hr9 hml hts hown hlocks hnm hK hP hD hAe hS hA hl hsz hZ hN hte
  have hown : s.vm.findClass RL = some m.cls := hown
  have hl : lv_has ls 4 [(0, .ref x), (1, .int p0), (2, .ref q)] := hl
  refine lv_aload_n hx hb dL_pass_0 rfl (lv_at hl 2 rfl) ?_
  refine lv_iconst (v := 0) hx hb dL_pass_1 (by decide) ?_
  refine lv_aload_n hx hb dL_pass_2 rfl (lv_at hl 0 rfl) ?_
  refine lv_iload_n hx hb dL_pass_3 rfl (lv_at hl 1 rfl) ?_
  have hPc := zP_right hP
  have hDc := zD_right hD
  refine z_callX (vx_runV (As := [.int p0]) (rest := [.int 0, .ref q]) ⟨hx, hb, hml, hown, hts⟩ (hM s.heap.size) (cwV 1 hts gL_pass_X5_pass rfl hr.1 hr.2.1 (by decide +kernel) ⟨hr.2.2.1, hr.2.2.2⟩) (zVx (ci := 5) (q0 := 0) hK hPc hDc hS hZ hA rfl h0) rfl rfl hl.1 rfl (lv_room (Nat.le_of_ble_eq_true rfl)) dL_pass_4 ⟨(Nat.le_of_ble_eq_true rfl), (Nat.le_of_ble_eq_true rfl)⟩) hP hD hS hA (fun ce q9 H locs hP hD hS hce hcv hcl => ?_)
  refine vx_catch (name := "java/lang/IllegalArgumentException") hown [] ⟨0, 9, 12, 13⟩ [] hte (fun z hz => absurd hz List.not_mem_nil) (by decide) (by decide) (hts _ zw_L_pass_c13) (va_Nw.use rfl (hZ.2.2.1 "java/lang/IllegalArgumentException" (by decide +kernel))) hce hcv hcl ?_
  refine W.eq (g2 := F0 m 12 ls [.ref q9]) rfl ?_
  refine lv_astore_n (lv' := [(3, .ref q9), (0, .ref x), (1, .int p0), (2, .ref q)]) hx hb dL_pass_12 rfl hl (by decide) rfl (fun ls hl => ?_)
  refine lv_iconst (v := 1) hx hb dL_pass_13 (by decide) ?_
  exact z_iret hx hb hr9 rfl hlocks () hP hD hS (Nat.le_of_ble_eq_true rfl) (Nat.le_of_ble_eq_true rfl) dL_pass_14 rfl
set_option maxRecDepth 100000 in
theorem wk_setGlare (l : Launch) (G : zG) (sz x q : Nat) (fs : List Value) (ov : Nat → Int64) (p0 : Int32) {post : Int32 → zDc → Prop} {WC : va_W} {w1 : zDc → va_W} {rm : Room} (h0 : WC[0]? = some (x, .inr (5, fs))) (hr : rm.cells = 0 ∧ rm.slots = 0 ∧ rm.frames + 1 ≤ 10 ∧ 8 + (3 + 11) + rm.locals ≤ 300) (hM : ∀ z, zMi l yX5_setGlare wsX5_setGlare rm [.ref x, .int p0] G WC post w1 z 0 0) : zMe l yL_setGlare wsL_setGlare zRW [.ref x, .int p0, .ref q] G (wO G q ov ++ WC) (fun v (u : zDc × (Nat → Int64)) => v = 0 ∧ ∃ r, post r u.1 ∧ u.2 0 = r.toInt64) (fun u => wO G q u.2 ++ w1 u.1) sz 1 6 := by
  refine zMe_of (cc := cL_setGlare) (maxL := 4) (ret := (some .int)) (hh := [(0, 9, 12, 13)]) (by decide) rfl (Nat.le_of_ble_eq_true rfl) ?_
  intro p e s m args below meth c A ls hx hb hr9 hml hts hown hlocks hnm hK hP hD hAe hS hA hl hsz hZ hN hte
  have hown : s.vm.findClass RL = some m.cls := hown
  have hl : lv_has ls 4 [(0, .ref x), (1, .int p0), (2, .ref q)] := hl
  refine lv_aload_n hx hb dL_setGlare_0 rfl (lv_at hl 2 rfl) ?_
  refine lv_iconst (v := 0) hx hb dL_setGlare_1 (by decide) ?_
  refine lv_aload_n hx hb dL_setGlare_2 rfl (lv_at hl 0 rfl) ?_
  refine lv_iload_n hx hb dL_setGlare_3 rfl (lv_at hl 1 rfl) ?_
  have hPc := zP_right hP
  have hDc := zD_right hD
  refine z_calliR (va_runV (As := [.int p0]) (rest := [.int 0, .ref q]) ⟨hx, hb, hml, hown, hts⟩ (hM s.heap.size) (cwV 1 hts gL_setGlare_X5_setGlare rfl hr.1 hr.2.1 (by decide +kernel) ⟨hr.2.2.1, hr.2.2.2⟩) (zV (ci := 5) (q0 := 0) hK hPc hDc rfl h0) rfl rfl hl.1 rfl (lv_room (Nat.le_of_ble_eq_true rfl)) dL_setGlare_4 ⟨(Nat.le_of_ble_eq_true rfl), (Nat.le_of_ble_eq_true rfl)⟩) hP hD hS hA (fun r u H locs hw hP hD hS => ?_)
  refine lv_i2l hx hb dL_setGlare_7 rfl ?_
  refine z_last hx hb hK hP hD hS dL_setGlare_8 (fun ow H locs how hP hD hS => ?_)
  refine lv_goto (tgt := 15) hx hb dL_setGlare_9 (by decide) ?_
  refine lv_iconst (v := 0) hx hb dL_setGlare_15 (by decide) ?_
  exact z_iret hx hb hr9 rfl hlocks (u, ow) hP hD hS (Nat.le_of_ble_eq_true rfl) (Nat.le_of_ble_eq_true rfl) dL_setGlare_16 ⟨rfl, r, hw, how⟩
theorem zw_L_setGlare_c13 : Cond.classLink RL 13 "java/lang/IllegalArgumentException" ∈ wsL_setGlare := by decide +kernel
set_option maxRecDepth 100000 in
theorem wx_setGlare_1 (l : Launch) (G : zG) (sz x q : Nat) (fs : List Value) (ov : Nat → Int64) (p0 : Int32) {WC : va_W} {rm : Room} (h0 : WC[0]? = some (x, .inr (5, fs))) (hr : rm.cells = 1 ∧ rm.slots = 6 ∧ rm.frames + 1 ≤ 10 ∧ 8 + (3 + 11) + rm.locals ≤ 300) (hM : ∀ z, zMx zNi l yX5_setGlare wsX5_setGlare rm [.ref x, .int p0] G WC "java/lang/IllegalArgumentException" z) : zMe l yL_setGlare wsL_setGlare zRW [.ref x, .int p0, .ref q] G (wO G q ov ++ WC) (fun v (_ : Unit) => v = 1) (fun _ => wO G q ov ++ WC) sz 1 6 := by
  refine zMe_of (cc := cL_setGlare) (maxL := 4) (ret := (some .int)) (hh := [(0, 9, 12, 13)]) (by decide) rfl (Nat.le_of_ble_eq_true rfl) ?_
  intro p e s m args below meth c A ls hx hb hr9 hml hts hown hlocks hnm hK hP hD hAe hS hA hl hsz hZ hN hte
  have hown : s.vm.findClass RL = some m.cls := hown
  have hl : lv_has ls 4 [(0, .ref x), (1, .int p0), (2, .ref q)] := hl
  refine lv_aload_n hx hb dL_setGlare_0 rfl (lv_at hl 2 rfl) ?_
  refine lv_iconst (v := 0) hx hb dL_setGlare_1 (by decide) ?_
  refine lv_aload_n hx hb dL_setGlare_2 rfl (lv_at hl 0 rfl) ?_
  refine lv_iload_n hx hb dL_setGlare_3 rfl (lv_at hl 1 rfl) ?_
  have hPc := zP_right hP
  have hDc := zD_right hD
  refine z_callX (vx_runV (As := [.int p0]) (rest := [.int 0, .ref q]) ⟨hx, hb, hml, hown, hts⟩ (hM s.heap.size) (cwV 1 hts gL_setGlare_X5_setGlare rfl hr.1 hr.2.1 (by decide +kernel) ⟨hr.2.2.1, hr.2.2.2⟩) (zVx (ci := 5) (q0 := 0) hK hPc hDc hS hZ hA rfl h0) rfl rfl hl.1 rfl (lv_room (Nat.le_of_ble_eq_true rfl)) dL_setGlare_4 ⟨(Nat.le_of_ble_eq_true rfl), (Nat.le_of_ble_eq_true rfl)⟩) hP hD hS hA (fun ce q9 H locs hP hD hS hce hcv hcl => ?_)
  refine vx_catch (name := "java/lang/IllegalArgumentException") hown [] ⟨0, 9, 12, 13⟩ [] hte (fun z hz => absurd hz List.not_mem_nil) (by decide) (by decide) (hts _ zw_L_setGlare_c13) (va_Nw.use rfl (hZ.2.2.1 "java/lang/IllegalArgumentException" (by decide +kernel))) hce hcv hcl ?_
  refine W.eq (g2 := F0 m 12 ls [.ref q9]) rfl ?_
  refine lv_astore_n (lv' := [(3, .ref q9), (0, .ref x), (1, .int p0), (2, .ref q)]) hx hb dL_setGlare_12 rfl hl (by decide) rfl (fun ls hl => ?_)
  refine lv_iconst (v := 1) hx hb dL_setGlare_13 (by decide) ?_
  exact z_iret hx hb hr9 rfl hlocks () hP hD hS (Nat.le_of_ble_eq_true rfl) (Nat.le_of_ble_eq_true rfl) dL_setGlare_14 rfl
set_option maxRecDepth 100000 in
theorem wk_setAddress (l : Launch) (G : zG) (sz x q : Nat) (fs : List Value) (ov : Nat → Int64) (p0 : Int32) {post : Int32 → zDc → Prop} {WC : va_W} {w1 : zDc → va_W} {rm : Room} (h0 : WC[0]? = some (x, .inr (5, fs))) (hr : rm.cells = 0 ∧ rm.slots = 0 ∧ rm.frames + 1 ≤ 10 ∧ 8 + (3 + 11) + rm.locals ≤ 300) (hM : ∀ z, zMi l yX5_setAddress wsX5_setAddress rm [.ref x, .int p0] G WC post w1 z 0 0) : zMe l yL_setAddress wsL_setAddress zRW [.ref x, .int p0, .ref q] G (wO G q ov ++ WC) (fun v (u : zDc × (Nat → Int64)) => v = 0 ∧ ∃ r, post r u.1 ∧ u.2 0 = r.toInt64) (fun u => wO G q u.2 ++ w1 u.1) sz 1 6 := by
  refine zMe_of (cc := cL_setAddress) (maxL := 4) (ret := (some .int)) (hh := [(0, 9, 12, 13)]) (by decide) rfl (Nat.le_of_ble_eq_true rfl) ?_
  intro p e s m args below meth c A ls hx hb hr9 hml hts hown hlocks hnm hK hP hD hAe hS hA hl hsz hZ hN hte
  have hown : s.vm.findClass RL = some m.cls := hown
  have hl : lv_has ls 4 [(0, .ref x), (1, .int p0), (2, .ref q)] := hl
  refine lv_aload_n hx hb dL_setAddress_0 rfl (lv_at hl 2 rfl) ?_
  refine lv_iconst (v := 0) hx hb dL_setAddress_1 (by decide) ?_
  refine lv_aload_n hx hb dL_setAddress_2 rfl (lv_at hl 0 rfl) ?_
  refine lv_iload_n hx hb dL_setAddress_3 rfl (lv_at hl 1 rfl) ?_
  have hPc := zP_right hP
  have hDc := zD_right hD
  refine z_calliR (va_runV (As := [.int p0]) (rest := [.int 0, .ref q]) ⟨hx, hb, hml, hown, hts⟩ (hM s.heap.size) (cwV 1 hts gL_setAddress_X5_setAddress rfl hr.1 hr.2.1 (by decide +kernel) ⟨hr.2.2.1, hr.2.2.2⟩) (zV (ci := 5) (q0 := 0) hK hPc hDc rfl h0) rfl rfl hl.1 rfl (lv_room (Nat.le_of_ble_eq_true rfl)) dL_setAddress_4 ⟨(Nat.le_of_ble_eq_true rfl), (Nat.le_of_ble_eq_true rfl)⟩) hP hD hS hA (fun r u H locs hw hP hD hS => ?_)
  refine lv_i2l hx hb dL_setAddress_7 rfl ?_
  refine z_last hx hb hK hP hD hS dL_setAddress_8 (fun ow H locs how hP hD hS => ?_)
  refine lv_goto (tgt := 15) hx hb dL_setAddress_9 (by decide) ?_
  refine lv_iconst (v := 0) hx hb dL_setAddress_15 (by decide) ?_
  exact z_iret hx hb hr9 rfl hlocks (u, ow) hP hD hS (Nat.le_of_ble_eq_true rfl) (Nat.le_of_ble_eq_true rfl) dL_setAddress_16 ⟨rfl, r, hw, how⟩
theorem zw_L_setAddress_c13 : Cond.classLink RL 13 "java/lang/IllegalArgumentException" ∈ wsL_setAddress := by decide +kernel
set_option maxRecDepth 100000 in
theorem wx_setAddress_1 (l : Launch) (G : zG) (sz x q : Nat) (fs : List Value) (ov : Nat → Int64) (p0 : Int32) {WC : va_W} {rm : Room} (h0 : WC[0]? = some (x, .inr (5, fs))) (hr : rm.cells = 1 ∧ rm.slots = 6 ∧ rm.frames + 1 ≤ 10 ∧ 8 + (3 + 11) + rm.locals ≤ 300) (hM : ∀ z, zMx zNi l yX5_setAddress wsX5_setAddress rm [.ref x, .int p0] G WC "java/lang/IllegalArgumentException" z) : zMe l yL_setAddress wsL_setAddress zRW [.ref x, .int p0, .ref q] G (wO G q ov ++ WC) (fun v (_ : Unit) => v = 1) (fun _ => wO G q ov ++ WC) sz 1 6 := by
  refine zMe_of (cc := cL_setAddress) (maxL := 4) (ret := (some .int)) (hh := [(0, 9, 12, 13)]) (by decide) rfl (Nat.le_of_ble_eq_true rfl) ?_
  intro p e s m args below meth c A ls hx hb hr9 hml hts hown hlocks hnm hK hP hD hAe hS hA hl hsz hZ hN hte
  have hown : s.vm.findClass RL = some m.cls := hown
  have hl : lv_has ls 4 [(0, .ref x), (1, .int p0), (2, .ref q)] := hl
  refine lv_aload_n hx hb dL_setAddress_0 rfl (lv_at hl 2 rfl) ?_
  refine lv_iconst (v := 0) hx hb dL_setAddress_1 (by decide) ?_
  refine lv_aload_n hx hb dL_setAddress_2 rfl (lv_at hl 0 rfl) ?_
  refine lv_iload_n hx hb dL_setAddress_3 rfl (lv_at hl 1 rfl) ?_
  have hPc := zP_right hP
  have hDc := zD_right hD
  refine z_callX (vx_runV (As := [.int p0]) (rest := [.int 0, .ref q]) ⟨hx, hb, hml, hown, hts⟩ (hM s.heap.size) (cwV 1 hts gL_setAddress_X5_setAddress rfl hr.1 hr.2.1 (by decide +kernel) ⟨hr.2.2.1, hr.2.2.2⟩) (zVx (ci := 5) (q0 := 0) hK hPc hDc hS hZ hA rfl h0) rfl rfl hl.1 rfl (lv_room (Nat.le_of_ble_eq_true rfl)) dL_setAddress_4 ⟨(Nat.le_of_ble_eq_true rfl), (Nat.le_of_ble_eq_true rfl)⟩) hP hD hS hA (fun ce q9 H locs hP hD hS hce hcv hcl => ?_)
  refine vx_catch (name := "java/lang/IllegalArgumentException") hown [] ⟨0, 9, 12, 13⟩ [] hte (fun z hz => absurd hz List.not_mem_nil) (by decide) (by decide) (hts _ zw_L_setAddress_c13) (va_Nw.use rfl (hZ.2.2.1 "java/lang/IllegalArgumentException" (by decide +kernel))) hce hcv hcl ?_
  refine W.eq (g2 := F0 m 12 ls [.ref q9]) rfl ?_
  refine lv_astore_n (lv' := [(3, .ref q9), (0, .ref x), (1, .int p0), (2, .ref q)]) hx hb dL_setAddress_12 rfl hl (by decide) rfl (fun ls hl => ?_)
  refine lv_iconst (v := 1) hx hb dL_setAddress_13 (by decide) ?_
  exact z_iret hx hb hr9 rfl hlocks () hP hD hS (Nat.le_of_ble_eq_true rfl) (Nat.le_of_ble_eq_true rfl) dL_setAddress_14 rfl
set_option maxRecDepth 100000 in
theorem wk_learn (l : Launch) (G : zG) (sz x q : Nat) (fs : List Value) (ov : Nat → Int64) (p0 p1 : Int32) {post : Int32 → zDc → Prop} {WC : va_W} {w1 : zDc → va_W} {rm : Room} (h0 : WC[0]? = some (x, .inr (5, fs))) (hr : rm.cells = 0 ∧ rm.slots = 0 ∧ rm.frames + 1 ≤ 10 ∧ 8 + (4 + 11) + rm.locals ≤ 300) (hM : ∀ z, zMi l yX5_learn wsX5_learn rm [.ref x, .int p0, .int p1] G WC post w1 z 0 0) : zMe l yL_learn wsL_learn zRW [.ref x, .int p0, .int p1, .ref q] G (wO G q ov ++ WC) (fun v (u : zDc × (Nat → Int64)) => v = 0 ∧ ∃ r, post r u.1 ∧ u.2 0 = r.toInt64) (fun u => wO G q u.2 ++ w1 u.1) sz 1 6 := by
  refine zMe_of (cc := cL_learn) (maxL := 5) (ret := (some .int)) (hh := [(0, 10, 13, 40), (0, 10, 17, 13)]) (by decide) rfl (Nat.le_of_ble_eq_true rfl) ?_
  intro p e s m args below meth c A ls hx hb hr9 hml hts hown hlocks hnm hK hP hD hAe hS hA hl hsz hZ hN hte
  have hown : s.vm.findClass RL = some m.cls := hown
  have hl : lv_has ls 5 [(0, .ref x), (1, .int p0), (2, .int p1), (3, .ref q)] := hl
  refine lv_aload_n hx hb dL_learn_0 rfl (lv_at hl 3 rfl) ?_
  refine lv_iconst (v := 0) hx hb dL_learn_1 (by decide) ?_
  refine lv_aload_n hx hb dL_learn_2 rfl (lv_at hl 0 rfl) ?_
  refine lv_iload_n hx hb dL_learn_3 rfl (lv_at hl 1 rfl) ?_
  refine lv_iload_n hx hb dL_learn_4 rfl (lv_at hl 2 rfl) ?_
  have hPc := zP_right hP
  have hDc := zD_right hD
  refine z_calliR (va_runV (As := [.int p0, .int p1]) (rest := [.int 0, .ref q]) ⟨hx, hb, hml, hown, hts⟩ (hM s.heap.size) (cwV 2 hts gL_learn_X5_learn rfl hr.1 hr.2.1 (by decide +kernel) ⟨hr.2.2.1, hr.2.2.2⟩) (zV (ci := 5) (q0 := 0) hK hPc hDc rfl h0) rfl rfl hl.1 rfl (lv_room (Nat.le_of_ble_eq_true rfl)) dL_learn_5 ⟨(Nat.le_of_ble_eq_true rfl), (Nat.le_of_ble_eq_true rfl)⟩) hP hD hS hA (fun r u H locs hw hP hD hS => ?_)
  refine lv_i2l hx hb dL_learn_8 rfl ?_
  refine z_last hx hb hK hP hD hS dL_learn_9 (fun ow H locs how hP hD hS => ?_)
  refine lv_goto (tgt := 21) hx hb dL_learn_10 (by decide) ?_
  refine lv_iconst (v := 0) hx hb dL_learn_21 (by decide) ?_
  exact z_iret hx hb hr9 rfl hlocks (u, ow) hP hD hS (Nat.le_of_ble_eq_true rfl) (Nat.le_of_ble_eq_true rfl) dL_learn_22 ⟨rfl, r, hw, how⟩
theorem zw_L_learn_c40 : Cond.classLink RL 40 "java/lang/IndexOutOfBoundsException" ∈ wsL_learn := by decide +kernel
set_option maxRecDepth 100000 in
theorem wx_learn_1 (l : Launch) (G : zG) (sz x q : Nat) (fs : List Value) (ov : Nat → Int64) (p0 p1 : Int32) {WC : va_W} {rm : Room} (h0 : WC[0]? = some (x, .inr (5, fs))) (hr : rm.cells = 1 ∧ rm.slots = 6 ∧ rm.frames + 1 ≤ 10 ∧ 8 + (4 + 11) + rm.locals ≤ 300) (hM : ∀ z, zMx zNi l yX5_learn wsX5_learn rm [.ref x, .int p0, .int p1] G WC "java/lang/IndexOutOfBoundsException" z) : zMe l yL_learn wsL_learn zRW [.ref x, .int p0, .int p1, .ref q] G (wO G q ov ++ WC) (fun v (_ : Unit) => v = 1) (fun _ => wO G q ov ++ WC) sz 1 6 := by
  refine zMe_of (cc := cL_learn) (maxL := 5) (ret := (some .int)) (hh := [(0, 10, 13, 40), (0, 10, 17, 13)]) (by decide) rfl (Nat.le_of_ble_eq_true rfl) ?_
  intro p e s m args below meth c A ls hx hb hr9 hml hts hown hlocks hnm hK hP hD hAe hS hA hl hsz hZ hN hte
  have hown : s.vm.findClass RL = some m.cls := hown
  have hl : lv_has ls 5 [(0, .ref x), (1, .int p0), (2, .int p1), (3, .ref q)] := hl
  refine lv_aload_n hx hb dL_learn_0 rfl (lv_at hl 3 rfl) ?_
  refine lv_iconst (v := 0) hx hb dL_learn_1 (by decide) ?_
  refine lv_aload_n hx hb dL_learn_2 rfl (lv_at hl 0 rfl) ?_
  refine lv_iload_n hx hb dL_learn_3 rfl (lv_at hl 1 rfl) ?_
  refine lv_iload_n hx hb dL_learn_4 rfl (lv_at hl 2 rfl) ?_
  have hPc := zP_right hP
  have hDc := zD_right hD
  refine z_callX (vx_runV (As := [.int p0, .int p1]) (rest := [.int 0, .ref q]) ⟨hx, hb, hml, hown, hts⟩ (hM s.heap.size) (cwV 2 hts gL_learn_X5_learn rfl hr.1 hr.2.1 (by decide +kernel) ⟨hr.2.2.1, hr.2.2.2⟩) (zVx (ci := 5) (q0 := 0) hK hPc hDc hS hZ hA rfl h0) rfl rfl hl.1 rfl (lv_room (Nat.le_of_ble_eq_true rfl)) dL_learn_5 ⟨(Nat.le_of_ble_eq_true rfl), (Nat.le_of_ble_eq_true rfl)⟩) hP hD hS hA (fun ce q9 H locs hP hD hS hce hcv hcl => ?_)
  refine vx_catch (name := "java/lang/IndexOutOfBoundsException") hown [] ⟨0, 10, 13, 40⟩ [⟨0, 10, 17, 13⟩] hte (fun z hz => absurd hz List.not_mem_nil) (by decide) (by decide) (hts _ zw_L_learn_c40) (va_Nw.use rfl (hZ.2.2.1 "java/lang/IndexOutOfBoundsException" (by decide +kernel))) hce hcv hcl ?_
  refine W.eq (g2 := F0 m 13 ls [.ref q9]) rfl ?_
  refine lv_astore (lv' := [(4, .ref q9), (0, .ref x), (1, .int p0), (2, .int p1), (3, .ref q)]) hx hb dL_learn_13 hl (by decide) rfl (fun ls hl => ?_)
  refine lv_iconst (v := 1) hx hb dL_learn_15 (by decide) ?_
  exact z_iret hx hb hr9 rfl hlocks () hP hD hS (Nat.le_of_ble_eq_true rfl) (Nat.le_of_ble_eq_true rfl) dL_learn_16 rfl
theorem zw_L_learn_c13 : Cond.classLink RL 13 "java/lang/IllegalArgumentException" ∈ wsL_learn := by decide +kernel
set_option maxRecDepth 100000 in
theorem wx_learn_2 (l : Launch) (G : zG) (sz x q : Nat) (fs : List Value) (ov : Nat → Int64) (p0 p1 : Int32) {WC : va_W} {rm : Room} (h0 : WC[0]? = some (x, .inr (5, fs))) (hr : rm.cells = 1 ∧ rm.slots = 6 ∧ rm.frames + 1 ≤ 10 ∧ 8 + (4 + 11) + rm.locals ≤ 300) (hM : ∀ z, zMx zNi l yX5_learn wsX5_learn rm [.ref x, .int p0, .int p1] G WC "java/lang/IllegalArgumentException" z) : zMe l yL_learn wsL_learn zRW [.ref x, .int p0, .int p1, .ref q] G (wO G q ov ++ WC) (fun v (_ : Unit) => v = 2) (fun _ => wO G q ov ++ WC) sz 1 6 := by
  refine zMe_of (cc := cL_learn) (maxL := 5) (ret := (some .int)) (hh := [(0, 10, 13, 40), (0, 10, 17, 13)]) (by decide) rfl (Nat.le_of_ble_eq_true rfl) ?_
  intro p e s m args below meth c A ls hx hb hr9 hml hts hown hlocks hnm hK hP hD hAe hS hA hl hsz hZ hN hte
  have hown : s.vm.findClass RL = some m.cls := hown
  have hl : lv_has ls 5 [(0, .ref x), (1, .int p0), (2, .int p1), (3, .ref q)] := hl
  refine lv_aload_n hx hb dL_learn_0 rfl (lv_at hl 3 rfl) ?_
  refine lv_iconst (v := 0) hx hb dL_learn_1 (by decide) ?_
  refine lv_aload_n hx hb dL_learn_2 rfl (lv_at hl 0 rfl) ?_
  refine lv_iload_n hx hb dL_learn_3 rfl (lv_at hl 1 rfl) ?_
  refine lv_iload_n hx hb dL_learn_4 rfl (lv_at hl 2 rfl) ?_
  have hPc := zP_right hP
  have hDc := zD_right hD
  refine z_callX (vx_runV (As := [.int p0, .int p1]) (rest := [.int 0, .ref q]) ⟨hx, hb, hml, hown, hts⟩ (hM s.heap.size) (cwV 2 hts gL_learn_X5_learn rfl hr.1 hr.2.1 (by decide +kernel) ⟨hr.2.2.1, hr.2.2.2⟩) (zVx (ci := 5) (q0 := 0) hK hPc hDc hS hZ hA rfl h0) rfl rfl hl.1 rfl (lv_room (Nat.le_of_ble_eq_true rfl)) dL_learn_5 ⟨(Nat.le_of_ble_eq_true rfl), (Nat.le_of_ble_eq_true rfl)⟩) hP hD hS hA (fun ce q9 H locs hP hD hS hce hcv hcl => ?_)
  refine vx_catch (name := "java/lang/IllegalArgumentException") hown [⟨0, 10, 13, 40⟩] ⟨0, 10, 17, 13⟩ [] hte (fun z hz => by
    obtain rfl := List.mem_singleton.mp hz
    exact Or.inr ⟨by decide, "java/lang/IndexOutOfBoundsException", hts _ zw_L_learn_c40, hN.2⟩) (by decide) (by decide) (hts _ zw_L_learn_c13) (va_Nw.use rfl (hZ.2.2.1 "java/lang/IllegalArgumentException" (by decide +kernel))) hce hcv hcl ?_
  refine W.eq (g2 := F0 m 17 ls [.ref q9]) rfl ?_
  refine lv_astore (lv' := [(4, .ref q9), (0, .ref x), (1, .int p0), (2, .int p1), (3, .ref q)]) hx hb dL_learn_17 hl (by decide) rfl (fun ls hl => ?_)
  refine lv_iconst (v := 2) hx hb dL_learn_19 (by decide) ?_
  exact z_iret hx hb hr9 rfl hlocks () hP hD hS (Nat.le_of_ble_eq_true rfl) (Nat.le_of_ble_eq_true rfl) dL_learn_20 rfl
set_option maxRecDepth 100000 in
theorem wk_action (l : Launch) (G : zG) (sz x q : Nat) (fs : List Value) (ov : Nat → Int64) (p0 : Int32) {post : Int32 → zDc → Prop} {WC : va_W} {w1 : zDc → va_W} {rm : Room} (h0 : WC[0]? = some (x, .inr (5, fs))) (hr : rm.cells = 0 ∧ rm.slots = 0 ∧ rm.frames + 1 ≤ 10 ∧ 8 + (2 + 11) + rm.locals ≤ 300) (hM : ∀ z, zMi l yX5_action wsX5_action rm [.ref x, .int p0] G WC post w1 z 0 0) : zMe l yL_action wsL_action zRW [.ref x, .int p0, .ref q] G (wO G q ov ++ WC) (fun v (u : zDc × (Nat → Int64)) => v = 0 ∧ ∃ r, post r u.1 ∧ u.2 0 = r.toInt64) (fun u => wO G q u.2 ++ w1 u.1) sz 1 6 := by
  refine zMe_of (cc := cL_action) (maxL := 4) (ret := (some .int)) (hh := [(0, 9, 12, 40)]) (by decide) rfl (Nat.le_of_ble_eq_true rfl) ?_
  intro p e s m args below meth c A ls hx hb hr9 hml hts hown hlocks hnm hK hP hD hAe hS hA hl hsz hZ hN hte
  have hown : s.vm.findClass RL = some m.cls := hown
  have hl : lv_has ls 4 [(0, .ref x), (1, .int p0), (2, .ref q)] := hl
  refine lv_aload_n hx hb dL_action_0 rfl (lv_at hl 2 rfl) ?_
  refine lv_iconst (v := 0) hx hb dL_action_1 (by decide) ?_
  refine lv_aload_n hx hb dL_action_2 rfl (lv_at hl 0 rfl) ?_
  refine lv_iload_n hx hb dL_action_3 rfl (lv_at hl 1 rfl) ?_
  have hPc := zP_right hP
  have hDc := zD_right hD
  refine z_calliR (va_runV (As := [.int p0]) (rest := [.int 0, .ref q]) ⟨hx, hb, hml, hown, hts⟩ (hM s.heap.size) (cwV 1 hts gL_action_X5_action rfl hr.1 hr.2.1 (by decide +kernel) ⟨hr.2.2.1, hr.2.2.2⟩) (zV (ci := 5) (q0 := 0) hK hPc hDc rfl h0) rfl rfl hl.1 rfl (lv_room (Nat.le_of_ble_eq_true rfl)) dL_action_4 ⟨(Nat.le_of_ble_eq_true rfl), (Nat.le_of_ble_eq_true rfl)⟩) hP hD hS hA (fun r u H locs hw hP hD hS => ?_)
  refine lv_i2l hx hb dL_action_7 rfl ?_
  refine z_last hx hb hK hP hD hS dL_action_8 (fun ow H locs how hP hD hS => ?_)
  refine lv_goto (tgt := 15) hx hb dL_action_9 (by decide) ?_
  refine lv_iconst (v := 0) hx hb dL_action_15 (by decide) ?_
  exact z_iret hx hb hr9 rfl hlocks (u, ow) hP hD hS (Nat.le_of_ble_eq_true rfl) (Nat.le_of_ble_eq_true rfl) dL_action_16 ⟨rfl, r, hw, how⟩
theorem zw_L_action_c40 : Cond.classLink RL 40 "java/lang/IndexOutOfBoundsException" ∈ wsL_action := by decide +kernel
set_option maxRecDepth 100000 in
theorem wx_action_1 (l : Launch) (G : zG) (sz x q : Nat) (fs : List Value) (ov : Nat → Int64) (p0 : Int32) {WC : va_W} {rm : Room} (h0 : WC[0]? = some (x, .inr (5, fs))) (hr : rm.cells = 1 ∧ rm.slots = 6 ∧ rm.frames + 1 ≤ 10 ∧ 8 + (2 + 11) + rm.locals ≤ 300) (hM : ∀ z, zMx zNi l yX5_action wsX5_action rm [.ref x, .int p0] G WC "java/lang/IndexOutOfBoundsException" z) : zMe l yL_action wsL_action zRW [.ref x, .int p0, .ref q] G (wO G q ov ++ WC) (fun v (_ : Unit) => v = 1) (fun _ => wO G q ov ++ WC) sz 1 6 := by
  refine zMe_of (cc := cL_action) (maxL := 4) (ret := (some .int)) (hh := [(0, 9, 12, 40)]) (by decide) rfl (Nat.le_of_ble_eq_true rfl) ?_
  intro p e s m args below meth c A ls hx hb hr9 hml hts hown hlocks hnm hK hP hD hAe hS hA hl hsz hZ hN hte
  have hown : s.vm.findClass RL = some m.cls := hown
  have hl : lv_has ls 4 [(0, .ref x), (1, .int p0), (2, .ref q)] := hl
  refine lv_aload_n hx hb dL_action_0 rfl (lv_at hl 2 rfl) ?_
  refine lv_iconst (v := 0) hx hb dL_action_1 (by decide) ?_
  refine lv_aload_n hx hb dL_action_2 rfl (lv_at hl 0 rfl) ?_
  refine lv_iload_n hx hb dL_action_3 rfl (lv_at hl 1 rfl) ?_
  have hPc := zP_right hP
  have hDc := zD_right hD
  refine z_callX (vx_runV (As := [.int p0]) (rest := [.int 0, .ref q]) ⟨hx, hb, hml, hown, hts⟩ (hM s.heap.size) (cwV 1 hts gL_action_X5_action rfl hr.1 hr.2.1 (by decide +kernel) ⟨hr.2.2.1, hr.2.2.2⟩) (zVx (ci := 5) (q0 := 0) hK hPc hDc hS hZ hA rfl h0) rfl rfl hl.1 rfl (lv_room (Nat.le_of_ble_eq_true rfl)) dL_action_4 ⟨(Nat.le_of_ble_eq_true rfl), (Nat.le_of_ble_eq_true rfl)⟩) hP hD hS hA (fun ce q9 H locs hP hD hS hce hcv hcl => ?_)
  refine vx_catch (name := "java/lang/IndexOutOfBoundsException") hown [] ⟨0, 9, 12, 40⟩ [] hte (fun z hz => absurd hz List.not_mem_nil) (by decide) (by decide) (hts _ zw_L_action_c40) (va_Nw.use rfl (hZ.2.2.1 "java/lang/IndexOutOfBoundsException" (by decide +kernel))) hce hcv hcl ?_
  refine W.eq (g2 := F0 m 12 ls [.ref q9]) rfl ?_
  refine lv_astore_n (lv' := [(3, .ref q9), (0, .ref x), (1, .int p0), (2, .ref q)]) hx hb dL_action_12 rfl hl (by decide) rfl (fun ls hl => ?_)
  refine lv_iconst (v := 1) hx hb dL_action_13 (by decide) ?_
  exact z_iret hx hb hr9 rfl hlocks () hP hD hS (Nat.le_of_ble_eq_true rfl) (Nat.le_of_ble_eq_true rfl) dL_action_14 rfl
set_option maxRecDepth 100000 in
theorem wk_done (l : Launch) (G : zG) (sz x q : Nat) (fs : List Value) (ov : Nat → Int64) (p0 : Int32) {post : Int32 → zDc → Prop} {WC : va_W} {w1 : zDc → va_W} {rm : Room} (h0 : WC[0]? = some (x, .inr (5, fs))) (hr : rm.cells = 0 ∧ rm.slots = 0 ∧ rm.frames + 1 ≤ 10 ∧ 8 + (2 + 11) + rm.locals ≤ 300) (hM : ∀ z, zMi l yX5_done wsX5_done rm [.ref x, .int p0] G WC post w1 z 0 0) : zMe l yL_done wsL_done zRW [.ref x, .int p0, .ref q] G (wO G q ov ++ WC) (fun v (u : zDc × (Nat → Int64)) => v = 0 ∧ ∃ r, post r u.1 ∧ u.2 0 = r.toInt64) (fun u => wO G q u.2 ++ w1 u.1) sz 1 6 := by
  refine zMe_of (cc := cL_done) (maxL := 4) (ret := (some .int)) (hh := [(0, 9, 12, 40)]) (by decide) rfl (Nat.le_of_ble_eq_true rfl) ?_
  intro p e s m args below meth c A ls hx hb hr9 hml hts hown hlocks hnm hK hP hD hAe hS hA hl hsz hZ hN hte
  have hown : s.vm.findClass RL = some m.cls := hown
  have hl : lv_has ls 4 [(0, .ref x), (1, .int p0), (2, .ref q)] := hl
  refine lv_aload_n hx hb dL_done_0 rfl (lv_at hl 2 rfl) ?_
  refine lv_iconst (v := 0) hx hb dL_done_1 (by decide) ?_
  refine lv_aload_n hx hb dL_done_2 rfl (lv_at hl 0 rfl) ?_
  refine lv_iload_n hx hb dL_done_3 rfl (lv_at hl 1 rfl) ?_
  have hPc := zP_right hP
  have hDc := zD_right hD
  refine z_calliR (va_runV (As := [.int p0]) (rest := [.int 0, .ref q]) ⟨hx, hb, hml, hown, hts⟩ (hM s.heap.size) (cwV 1 hts gL_done_X5_done rfl hr.1 hr.2.1 (by decide +kernel) ⟨hr.2.2.1, hr.2.2.2⟩) (zV (ci := 5) (q0 := 0) hK hPc hDc rfl h0) rfl rfl hl.1 rfl (lv_room (Nat.le_of_ble_eq_true rfl)) dL_done_4 ⟨(Nat.le_of_ble_eq_true rfl), (Nat.le_of_ble_eq_true rfl)⟩) hP hD hS hA (fun r u H locs hw hP hD hS => ?_)
  refine lv_i2l hx hb dL_done_7 rfl ?_
  refine z_last hx hb hK hP hD hS dL_done_8 (fun ow H locs how hP hD hS => ?_)
  refine lv_goto (tgt := 15) hx hb dL_done_9 (by decide) ?_
  refine lv_iconst (v := 0) hx hb dL_done_15 (by decide) ?_
  exact z_iret hx hb hr9 rfl hlocks (u, ow) hP hD hS (Nat.le_of_ble_eq_true rfl) (Nat.le_of_ble_eq_true rfl) dL_done_16 ⟨rfl, r, hw, how⟩
theorem zw_L_done_c40 : Cond.classLink RL 40 "java/lang/IndexOutOfBoundsException" ∈ wsL_done := by decide +kernel
set_option maxRecDepth 100000 in
theorem wx_done_1 (l : Launch) (G : zG) (sz x q : Nat) (fs : List Value) (ov : Nat → Int64) (p0 : Int32) {WC : va_W} {rm : Room} (h0 : WC[0]? = some (x, .inr (5, fs))) (hr : rm.cells = 1 ∧ rm.slots = 6 ∧ rm.frames + 1 ≤ 10 ∧ 8 + (2 + 11) + rm.locals ≤ 300) (hM : ∀ z, zMx zNi l yX5_done wsX5_done rm [.ref x, .int p0] G WC "java/lang/IndexOutOfBoundsException" z) : zMe l yL_done wsL_done zRW [.ref x, .int p0, .ref q] G (wO G q ov ++ WC) (fun v (_ : Unit) => v = 1) (fun _ => wO G q ov ++ WC) sz 1 6 := by
  refine zMe_of (cc := cL_done) (maxL := 4) (ret := (some .int)) (hh := [(0, 9, 12, 40)]) (by decide) rfl (Nat.le_of_ble_eq_true rfl) ?_
  intro p e s m args below meth c A ls hx hb hr9 hml hts hown hlocks hnm hK hP hD hAe hS hA hl hsz hZ hN hte
  have hown : s.vm.findClass RL = some m.cls := hown
  have hl : lv_has ls 4 [(0, .ref x), (1, .int p0), (2, .ref q)] := hl
  refine lv_aload_n hx hb dL_done_0 rfl (lv_at hl 2 rfl) ?_
  refine lv_iconst (v := 0) hx hb dL_done_1 (by decide) ?_
  refine lv_aload_n hx hb dL_done_2 rfl (lv_at hl 0 rfl) ?_
  refine lv_iload_n hx hb dL_done_3 rfl (lv_at hl 1 rfl) ?_
  have hPc := zP_right hP
  have hDc := zD_right hD
  refine z_callX (vx_runV (As := [.int p0]) (rest := [.int 0, .ref q]) ⟨hx, hb, hml, hown, hts⟩ (hM s.heap.size) (cwV 1 hts gL_done_X5_done rfl hr.1 hr.2.1 (by decide +kernel) ⟨hr.2.2.1, hr.2.2.2⟩) (zVx (ci := 5) (q0 := 0) hK hPc hDc hS hZ hA rfl h0) rfl rfl hl.1 rfl (lv_room (Nat.le_of_ble_eq_true rfl)) dL_done_4 ⟨(Nat.le_of_ble_eq_true rfl), (Nat.le_of_ble_eq_true rfl)⟩) hP hD hS hA (fun ce q9 H locs hP hD hS hce hcv hcl => ?_)
  refine vx_catch (name := "java/lang/IndexOutOfBoundsException") hown [] ⟨0, 9, 12, 40⟩ [] hte (fun z hz => absurd hz List.not_mem_nil) (by decide) (by decide) (hts _ zw_L_done_c40) (va_Nw.use rfl (hZ.2.2.1 "java/lang/IndexOutOfBoundsException" (by decide +kernel))) hce hcv hcl ?_
  refine W.eq (g2 := F0 m 12 ls [.ref q9]) rfl ?_
  refine lv_astore_n (lv' := [(3, .ref q9), (0, .ref x), (1, .int p0), (2, .ref q)]) hx hb dL_done_12 rfl hl (by decide) rfl (fun ls hl => ?_)
  refine lv_iconst (v := 1) hx hb dL_done_13 (by decide) ?_
  exact z_iret hx hb hr9 rfl hlocks () hP hD hS (Nat.le_of_ble_eq_true rfl) (Nat.le_of_ble_eq_true rfl) dL_done_14 rfl
set_option maxRecDepth 100000 in
theorem wk_refused (l : Launch) (G : zG) (sz x q : Nat) (fs : List Value) (ov : Nat → Int64) (p0 : Int32) {post : Int32 → zDc → Prop} {WC : va_W} {w1 : zDc → va_W} {rm : Room} (h0 : WC[0]? = some (x, .inr (5, fs))) (hr : rm.cells = 0 ∧ rm.slots = 0 ∧ rm.frames + 1 ≤ 10 ∧ 8 + (2 + 11) + rm.locals ≤ 300) (hM : ∀ z, zMi l yX5_refused wsX5_refused rm [.ref x, .int p0] G WC post w1 z 0 0) : zMe l yL_refused wsL_refused zRW [.ref x, .int p0, .ref q] G (wO G q ov ++ WC) (fun v (u : zDc × (Nat → Int64)) => v = 0 ∧ ∃ r, post r u.1 ∧ u.2 0 = r.toInt64) (fun u => wO G q u.2 ++ w1 u.1) sz 1 6 := by
  refine zMe_of (cc := cL_refused) (maxL := 4) (ret := (some .int)) (hh := [(0, 9, 12, 40)]) (by decide) rfl (Nat.le_of_ble_eq_true rfl) ?_
  intro p e s m args below meth c A ls hx hb hr9 hml hts hown hlocks hnm hK hP hD hAe hS hA hl hsz hZ hN hte
  have hown : s.vm.findClass RL = some m.cls := hown
  have hl : lv_has ls 4 [(0, .ref x), (1, .int p0), (2, .ref q)] := hl
  refine lv_aload_n hx hb dL_refused_0 rfl (lv_at hl 2 rfl) ?_
  refine lv_iconst (v := 0) hx hb dL_refused_1 (by decide) ?_
  refine lv_aload_n hx hb dL_refused_2 rfl (lv_at hl 0 rfl) ?_
  refine lv_iload_n hx hb dL_refused_3 rfl (lv_at hl 1 rfl) ?_
  have hPc := zP_right hP
  have hDc := zD_right hD
  refine z_calliR (va_runV (As := [.int p0]) (rest := [.int 0, .ref q]) ⟨hx, hb, hml, hown, hts⟩ (hM s.heap.size) (cwV 1 hts gL_refused_X5_refused rfl hr.1 hr.2.1 (by decide +kernel) ⟨hr.2.2.1, hr.2.2.2⟩) (zV (ci := 5) (q0 := 0) hK hPc hDc rfl h0) rfl rfl hl.1 rfl (lv_room (Nat.le_of_ble_eq_true rfl)) dL_refused_4 ⟨(Nat.le_of_ble_eq_true rfl), (Nat.le_of_ble_eq_true rfl)⟩) hP hD hS hA (fun r u H locs hw hP hD hS => ?_)
  refine lv_i2l hx hb dL_refused_7 rfl ?_
  refine z_last hx hb hK hP hD hS dL_refused_8 (fun ow H locs how hP hD hS => ?_)
  refine lv_goto (tgt := 15) hx hb dL_refused_9 (by decide) ?_
  refine lv_iconst (v := 0) hx hb dL_refused_15 (by decide) ?_
  exact z_iret hx hb hr9 rfl hlocks (u, ow) hP hD hS (Nat.le_of_ble_eq_true rfl) (Nat.le_of_ble_eq_true rfl) dL_refused_16 ⟨rfl, r, hw, how⟩
theorem zw_L_refused_c40 : Cond.classLink RL 40 "java/lang/IndexOutOfBoundsException" ∈ wsL_refused := by decide +kernel
set_option maxRecDepth 100000 in
theorem wx_refused_1 (l : Launch) (G : zG) (sz x q : Nat) (fs : List Value) (ov : Nat → Int64) (p0 : Int32) {WC : va_W} {rm : Room} (h0 : WC[0]? = some (x, .inr (5, fs))) (hr : rm.cells = 1 ∧ rm.slots = 6 ∧ rm.frames + 1 ≤ 10 ∧ 8 + (2 + 11) + rm.locals ≤ 300) (hM : ∀ z, zMx zNi l yX5_refused wsX5_refused rm [.ref x, .int p0] G WC "java/lang/IndexOutOfBoundsException" z) : zMe l yL_refused wsL_refused zRW [.ref x, .int p0, .ref q] G (wO G q ov ++ WC) (fun v (_ : Unit) => v = 1) (fun _ => wO G q ov ++ WC) sz 1 6 := by
  refine zMe_of (cc := cL_refused) (maxL := 4) (ret := (some .int)) (hh := [(0, 9, 12, 40)]) (by decide) rfl (Nat.le_of_ble_eq_true rfl) ?_
  intro p e s m args below meth c A ls hx hb hr9 hml hts hown hlocks hnm hK hP hD hAe hS hA hl hsz hZ hN hte
  have hown : s.vm.findClass RL = some m.cls := hown
  have hl : lv_has ls 4 [(0, .ref x), (1, .int p0), (2, .ref q)] := hl
  refine lv_aload_n hx hb dL_refused_0 rfl (lv_at hl 2 rfl) ?_
  refine lv_iconst (v := 0) hx hb dL_refused_1 (by decide) ?_
  refine lv_aload_n hx hb dL_refused_2 rfl (lv_at hl 0 rfl) ?_
  refine lv_iload_n hx hb dL_refused_3 rfl (lv_at hl 1 rfl) ?_
  have hPc := zP_right hP
  have hDc := zD_right hD
  refine z_callX (vx_runV (As := [.int p0]) (rest := [.int 0, .ref q]) ⟨hx, hb, hml, hown, hts⟩ (hM s.heap.size) (cwV 1 hts gL_refused_X5_refused rfl hr.1 hr.2.1 (by decide +kernel) ⟨hr.2.2.1, hr.2.2.2⟩) (zVx (ci := 5) (q0 := 0) hK hPc hDc hS hZ hA rfl h0) rfl rfl hl.1 rfl (lv_room (Nat.le_of_ble_eq_true rfl)) dL_refused_4 ⟨(Nat.le_of_ble_eq_true rfl), (Nat.le_of_ble_eq_true rfl)⟩) hP hD hS hA (fun ce q9 H locs hP hD hS hce hcv hcl => ?_)
  refine vx_catch (name := "java/lang/IndexOutOfBoundsException") hown [] ⟨0, 9, 12, 40⟩ [] hte (fun z hz => absurd hz List.not_mem_nil) (by decide) (by decide) (hts _ zw_L_refused_c40) (va_Nw.use rfl (hZ.2.2.1 "java/lang/IndexOutOfBoundsException" (by decide +kernel))) hce hcv hcl ?_
  refine W.eq (g2 := F0 m 12 ls [.ref q9]) rfl ?_
  refine lv_astore_n (lv' := [(3, .ref q9), (0, .ref x), (1, .int p0), (2, .ref q)]) hx hb dL_refused_12 rfl hl (by decide) rfl (fun ls hl => ?_)
  refine lv_iconst (v := 1) hx hb dL_refused_13 (by decide) ?_
  exact z_iret hx hb hr9 rfl hlocks () hP hD hS (Nat.le_of_ble_eq_true rfl) (Nat.le_of_ble_eq_true rfl) dL_refused_14 rfl
set_option maxRecDepth 100000 in
theorem wk_bit (l : Launch) (G : zG) (sz x q : Nat) (fs : List Value) (ov : Nat → Int64) (p0 p1 p2 p3 : Int32) {post : Int32 → zDc → Prop} {WC : va_W} {w1 : zDc → va_W} {rm : Room} (h0 : WC[0]? = some (x, .inr (5, fs))) (hr : rm.cells = 0 ∧ rm.slots = 0 ∧ rm.frames + 1 ≤ 10 ∧ 8 + (5 + 11) + rm.locals ≤ 300) (hM : ∀ z, zMi l yX5_bit wsX5_bit rm [.ref x, .int p0, .int p1, .int p2, .int p3] G WC post w1 z 0 0) : zMe l yL_bit wsL_bit zRW [.ref x, .int p0, .int p1, .int p2, .int p3, .ref q] G (wO G q ov ++ WC) (fun v (u : zDc × (Nat → Int64)) => v = 0 ∧ ∃ r, post r u.1 ∧ u.2 0 = r.toInt64) (fun u => wO G q u.2 ++ w1 u.1) sz 1 6 := by
  refine zMe_of (cc := cL_bit) (maxL := 7) (ret := (some .int)) (hh := [(0, 14, 17, 13)]) (by decide) rfl (Nat.le_of_ble_eq_true rfl) ?_
  intro p e s m args below meth c A ls hx hb hr9 hml hts hown hlocks hnm hK hP hD hAe hS hA hl hsz hZ hN hte
  have hown : s.vm.findClass RL = some m.cls := hown
  have hl : lv_has ls 7 [(0, .ref x), (1, .int p0), (2, .int p1), (3, .int p2), (4, .int p3), (5, .ref q)] := hl
  refine lv_aload hx hb dL_bit_0 (lv_at hl 5 rfl) ?_
  refine lv_iconst (v := 0) hx hb dL_bit_2 (by decide) ?_
  refine lv_aload_n hx hb dL_bit_3 rfl (lv_at hl 0 rfl) ?_
  refine lv_iload_n hx hb dL_bit_4 rfl (lv_at hl 1 rfl) ?_
  refine lv_iload_n hx hb dL_bit_5 rfl (lv_at hl 2 rfl) ?_
  refine lv_iload_n hx hb dL_bit_6 rfl (lv_at hl 3 rfl) ?_
  refine lv_iload hx hb dL_bit_7 (lv_at hl 4 rfl) ?_
  have hPc := zP_right hP
  have hDc := zD_right hD
  refine z_calliR (va_runV (As := [.int p0, .int p1, .int p2, .int p3]) (rest := [.int 0, .ref q]) ⟨hx, hb, hml, hown, hts⟩ (hM s.heap.size) (cwV 4 hts gL_bit_X5_bit rfl hr.1 hr.2.1 (by decide +kernel) ⟨hr.2.2.1, hr.2.2.2⟩) (zV (ci := 5) (q0 := 0) hK hPc hDc rfl h0) rfl rfl hl.1 rfl (lv_room (Nat.le_of_ble_eq_true rfl)) dL_bit_9 ⟨(Nat.le_of_ble_eq_true rfl), (Nat.le_of_ble_eq_true rfl)⟩) hP hD hS hA (fun r u H locs hw hP hD hS => ?_)
  refine lv_i2l hx hb dL_bit_12 rfl ?_
  refine z_last hx hb hK hP hD hS dL_bit_13 (fun ow H locs how hP hD hS => ?_)
  refine lv_goto (tgt := 21) hx hb dL_bit_14 (by decide) ?_
  refine lv_iconst (v := 0) hx hb dL_bit_21 (by decide) ?_
  exact z_iret hx hb hr9 rfl hlocks (u, ow) hP hD hS (Nat.le_of_ble_eq_true rfl) (Nat.le_of_ble_eq_true rfl) dL_bit_22 ⟨rfl, r, hw, how⟩
theorem zw_L_bit_c13 : Cond.classLink RL 13 "java/lang/IllegalArgumentException" ∈ wsL_bit := by decide +kernel
set_option maxRecDepth 100000 in
theorem wx_bit_1 (l : Launch) (G : zG) (sz x q : Nat) (fs : List Value) (ov : Nat → Int64) (p0 p1 p2 p3 : Int32) {WC : va_W} {rm : Room} (h0 : WC[0]? = some (x, .inr (5, fs))) (hr : rm.cells = 1 ∧ rm.slots = 6 ∧ rm.frames + 1 ≤ 10 ∧ 8 + (5 + 11) + rm.locals ≤ 300) (hM : ∀ z, zMx zNi l yX5_bit wsX5_bit rm [.ref x, .int p0, .int p1, .int p2, .int p3] G WC "java/lang/IllegalArgumentException" z) : zMe l yL_bit wsL_bit zRW [.ref x, .int p0, .int p1, .int p2, .int p3, .ref q] G (wO G q ov ++ WC) (fun v (_ : Unit) => v = 1) (fun _ => wO G q ov ++ WC) sz 1 6 := by
  refine zMe_of (cc := cL_bit) (maxL := 7) (ret := (some .int)) (hh := [(0, 14, 17, 13)]) (by decide) rfl (Nat.le_of_ble_eq_true rfl) ?_
  intro p e s m args below meth c A ls hx hb hr9 hml hts hown hlocks hnm hK hP hD hAe hS hA hl hsz hZ hN hte
  have hown : s.vm.findClass RL = some m.cls := hown
  have hl : lv_has ls 7 [(0, .ref x), (1, .int p0), (2, .int p1), (3, .int p2), (4, .int p3), (5, .ref q)] := hl
  refine lv_aload hx hb dL_bit_0 (lv_at hl 5 rfl) ?_
  refine lv_iconst (v := 0) hx hb dL_bit_2 (by decide) ?_
  refine lv_aload_n hx hb dL_bit_3 rfl (lv_at hl 0 rfl) ?_
  refine lv_iload_n hx hb dL_bit_4 rfl (lv_at hl 1 rfl) ?_
  refine lv_iload_n hx hb dL_bit_5 rfl (lv_at hl 2 rfl) ?_
  refine lv_iload_n hx hb dL_bit_6 rfl (lv_at hl 3 rfl) ?_
  refine lv_iload hx hb dL_bit_7 (lv_at hl 4 rfl) ?_
  have hPc := zP_right hP
  have hDc := zD_right hD
  refine z_callX (vx_runV (As := [.int p0, .int p1, .int p2, .int p3]) (rest := [.int 0, .ref q]) ⟨hx, hb, hml, hown, hts⟩ (hM s.heap.size) (cwV 4 hts gL_bit_X5_bit rfl hr.1 hr.2.1 (by decide +kernel) ⟨hr.2.2.1, hr.2.2.2⟩) (zVx (ci := 5) (q0 := 0) hK hPc hDc hS hZ hA rfl h0) rfl rfl hl.1 rfl (lv_room (Nat.le_of_ble_eq_true rfl)) dL_bit_9 ⟨(Nat.le_of_ble_eq_true rfl), (Nat.le_of_ble_eq_true rfl)⟩) hP hD hS hA (fun ce q9 H locs hP hD hS hce hcv hcl => ?_)
  refine vx_catch (name := "java/lang/IllegalArgumentException") hown [] ⟨0, 14, 17, 13⟩ [] hte (fun z hz => absurd hz List.not_mem_nil) (by decide) (by decide) (hts _ zw_L_bit_c13) (va_Nw.use rfl (hZ.2.2.1 "java/lang/IllegalArgumentException" (by decide +kernel))) hce hcv hcl ?_
  refine W.eq (g2 := F0 m 17 ls [.ref q9]) rfl ?_
  refine lv_astore (lv' := [(6, .ref q9), (0, .ref x), (1, .int p0), (2, .int p1), (3, .int p2), (4, .int p3), (5, .ref q)]) hx hb dL_bit_17 hl (by decide) rfl (fun ls hl => ?_)
  refine lv_iconst (v := 1) hx hb dL_bit_19 (by decide) ?_
  exact z_iret hx hb hr9 rfl hlocks () hP hD hS (Nat.le_of_ble_eq_true rfl) (Nat.le_of_ble_eq_true rfl) dL_bit_20 rfl
set_option maxRecDepth 100000 in
theorem wk_ifFrame (l : Launch) (G : zG) (sz x q : Nat) (fs : List Value) (ov : Nat → Int64) (p0 p1 p2 p3 : Int32) {post : Int32 → zDc → Prop} {WC : va_W} {w1 : zDc → va_W} {rm : Room} (h0 : WC[0]? = some (x, .inr (5, fs))) (hr : rm.cells = 0 ∧ rm.slots = 0 ∧ rm.frames + 1 ≤ 10 ∧ 8 + (5 + 11) + rm.locals ≤ 300) (hM : ∀ z, zMi l yX5_ifFrame wsX5_ifFrame rm [.ref x, .int p0, .int p1, .int p2, .int p3] G WC post w1 z 0 0) : zMe l yL_ifFrame wsL_ifFrame zRW [.ref x, .int p0, .int p1, .int p2, .int p3, .ref q] G (wO G q ov ++ WC) (fun v (u : zDc × (Nat → Int64)) => v = 0 ∧ ∃ r, post r u.1 ∧ u.2 0 = r.toInt64) (fun u => wO G q u.2 ++ w1 u.1) sz 1 6 := by
  refine zMe_of (cc := cL_ifFrame) (maxL := 7) (ret := (some .int)) (hh := [(0, 14, 17, 13)]) (by decide) rfl (Nat.le_of_ble_eq_true rfl) ?_
  intro p e s m args below meth c A ls hx hb hr9 hml hts hown hlocks hnm hK hP hD hAe hS hA hl hsz hZ hN hte
  have hown : s.vm.findClass RL = some m.cls := hown
  have hl : lv_has ls 7 [(0, .ref x), (1, .int p0), (2, .int p1), (3, .int p2), (4, .int p3), (5, .ref q)] := hl
  refine lv_aload hx hb dL_ifFrame_0 (lv_at hl 5 rfl) ?_
  refine lv_iconst (v := 0) hx hb dL_ifFrame_2 (by decide) ?_
  refine lv_aload_n hx hb dL_ifFrame_3 rfl (lv_at hl 0 rfl) ?_
  refine lv_iload_n hx hb dL_ifFrame_4 rfl (lv_at hl 1 rfl) ?_
  refine lv_iload_n hx hb dL_ifFrame_5 rfl (lv_at hl 2 rfl) ?_
  refine lv_iload_n hx hb dL_ifFrame_6 rfl (lv_at hl 3 rfl) ?_
  refine lv_iload hx hb dL_ifFrame_7 (lv_at hl 4 rfl) ?_
  have hPc := zP_right hP
  have hDc := zD_right hD
  refine z_calliR (va_runV (As := [.int p0, .int p1, .int p2, .int p3]) (rest := [.int 0, .ref q]) ⟨hx, hb, hml, hown, hts⟩ (hM s.heap.size) (cwV 4 hts gL_ifFrame_X5_ifFrame rfl hr.1 hr.2.1 (by decide +kernel) ⟨hr.2.2.1, hr.2.2.2⟩) (zV (ci := 5) (q0 := 0) hK hPc hDc rfl h0) rfl rfl hl.1 rfl (lv_room (Nat.le_of_ble_eq_true rfl)) dL_ifFrame_9 ⟨(Nat.le_of_ble_eq_true rfl), (Nat.le_of_ble_eq_true rfl)⟩) hP hD hS hA (fun r u H locs hw hP hD hS => ?_)
  refine lv_i2l hx hb dL_ifFrame_12 rfl ?_
  refine z_last hx hb hK hP hD hS dL_ifFrame_13 (fun ow H locs how hP hD hS => ?_)
  refine lv_goto (tgt := 21) hx hb dL_ifFrame_14 (by decide) ?_
  refine lv_iconst (v := 0) hx hb dL_ifFrame_21 (by decide) ?_
  exact z_iret hx hb hr9 rfl hlocks (u, ow) hP hD hS (Nat.le_of_ble_eq_true rfl) (Nat.le_of_ble_eq_true rfl) dL_ifFrame_22 ⟨rfl, r, hw, how⟩
theorem zw_L_ifFrame_c13 : Cond.classLink RL 13 "java/lang/IllegalArgumentException" ∈ wsL_ifFrame := by decide +kernel
set_option maxRecDepth 100000 in
theorem wx_ifFrame_1 (l : Launch) (G : zG) (sz x q : Nat) (fs : List Value) (ov : Nat → Int64) (p0 p1 p2 p3 : Int32) {WC : va_W} {rm : Room} (h0 : WC[0]? = some (x, .inr (5, fs))) (hr : rm.cells = 1 ∧ rm.slots = 6 ∧ rm.frames + 1 ≤ 10 ∧ 8 + (5 + 11) + rm.locals ≤ 300) (hM : ∀ z, zMx zNi l yX5_ifFrame wsX5_ifFrame rm [.ref x, .int p0, .int p1, .int p2, .int p3] G WC "java/lang/IllegalArgumentException" z) : zMe l yL_ifFrame wsL_ifFrame zRW [.ref x, .int p0, .int p1, .int p2, .int p3, .ref q] G (wO G q ov ++ WC) (fun v (_ : Unit) => v = 1) (fun _ => wO G q ov ++ WC) sz 1 6 := by
  refine zMe_of (cc := cL_ifFrame) (maxL := 7) (ret := (some .int)) (hh := [(0, 14, 17, 13)]) (by decide) rfl (Nat.le_of_ble_eq_true rfl) ?_
  intro p e s m args below meth c A ls hx hb hr9 hml hts hown hlocks hnm hK hP hD hAe hS hA hl hsz hZ hN hte
  have hown : s.vm.findClass RL = some m.cls := hown
  have hl : lv_has ls 7 [(0, .ref x), (1, .int p0), (2, .int p1), (3, .int p2), (4, .int p3), (5, .ref q)] := hl
  refine lv_aload hx hb dL_ifFrame_0 (lv_at hl 5 rfl) ?_
  refine lv_iconst (v := 0) hx hb dL_ifFrame_2 (by decide) ?_
  refine lv_aload_n hx hb dL_ifFrame_3 rfl (lv_at hl 0 rfl) ?_
  refine lv_iload_n hx hb dL_ifFrame_4 rfl (lv_at hl 1 rfl) ?_
  refine lv_iload_n hx hb dL_ifFrame_5 rfl (lv_at hl 2 rfl) ?_
  refine lv_iload_n hx hb dL_ifFrame_6 rfl (lv_at hl 3 rfl) ?_
  refine lv_iload hx hb dL_ifFrame_7 (lv_at hl 4 rfl) ?_
  have hPc := zP_right hP
  have hDc := zD_right hD
  refine z_callX (vx_runV (As := [.int p0, .int p1, .int p2, .int p3]) (rest := [.int 0, .ref q]) ⟨hx, hb, hml, hown, hts⟩ (hM s.heap.size) (cwV 4 hts gL_ifFrame_X5_ifFrame rfl hr.1 hr.2.1 (by decide +kernel) ⟨hr.2.2.1, hr.2.2.2⟩) (zVx (ci := 5) (q0 := 0) hK hPc hDc hS hZ hA rfl h0) rfl rfl hl.1 rfl (lv_room (Nat.le_of_ble_eq_true rfl)) dL_ifFrame_9 ⟨(Nat.le_of_ble_eq_true rfl), (Nat.le_of_ble_eq_true rfl)⟩) hP hD hS hA (fun ce q9 H locs hP hD hS hce hcv hcl => ?_)
  refine vx_catch (name := "java/lang/IllegalArgumentException") hown [] ⟨0, 14, 17, 13⟩ [] hte (fun z hz => absurd hz List.not_mem_nil) (by decide) (by decide) (hts _ zw_L_ifFrame_c13) (va_Nw.use rfl (hZ.2.2.1 "java/lang/IllegalArgumentException" (by decide +kernel))) hce hcv hcl ?_
  refine W.eq (g2 := F0 m 17 ls [.ref q9]) rfl ?_
  refine lv_astore (lv' := [(6, .ref q9), (0, .ref x), (1, .int p0), (2, .int p1), (3, .int p2), (4, .int p3), (5, .ref q)]) hx hb dL_ifFrame_17 hl (by decide) rfl (fun ls hl => ?_)
  refine lv_iconst (v := 1) hx hb dL_ifFrame_19 (by decide) ?_
  exact z_iret hx hb hr9 rfl hlocks () hP hD hS (Nat.le_of_ble_eq_true rfl) (Nat.le_of_ble_eq_true rfl) dL_ifFrame_20 rfl
set_option maxRecDepth 100000 in
theorem wk_append (l : Launch) (G : zG) (sz x q : Nat) (fs : List Value) (ov : Nat → Int64) (p0 : Int32) {post : Int32 → zDc → Prop} {WC : va_W} {w1 : zDc → va_W} {rm : Room} (h0 : WC[0]? = some (x, .inr (5, fs))) (hr : rm.cells = 0 ∧ rm.slots = 0 ∧ rm.frames + 1 ≤ 10 ∧ 8 + (2 + 11) + rm.locals ≤ 300) (hM : ∀ z, zMi l yX5_append wsX5_append rm [.ref x, .int p0] G WC post w1 z 0 0) : zMe l yL_append wsL_append zRW [.ref x, .int p0, .ref q] G (wO G q ov ++ WC) (fun v (u : zDc × (Nat → Int64)) => v = 0 ∧ ∃ r, post r u.1 ∧ u.2 0 = r.toInt64) (fun u => wO G q u.2 ++ w1 u.1) sz 1 6 := by
  refine zMe_of (cc := cL_append) (maxL := 4) (ret := (some .int)) (hh := [(0, 9, 12, 13), (0, 9, 15, 22)]) (by decide) rfl (Nat.le_of_ble_eq_true rfl) ?_
  intro p e s m args below meth c A ls hx hb hr9 hml hts hown hlocks hnm hK hP hD hAe hS hA hl hsz hZ hN hte
  have hown : s.vm.findClass RL = some m.cls := hown
  have hl : lv_has ls 4 [(0, .ref x), (1, .int p0), (2, .ref q)] := hl
  refine lv_aload_n hx hb dL_append_0 rfl (lv_at hl 2 rfl) ?_
  refine lv_iconst (v := 0) hx hb dL_append_1 (by decide) ?_
  refine lv_aload_n hx hb dL_append_2 rfl (lv_at hl 0 rfl) ?_
  refine lv_iload_n hx hb dL_append_3 rfl (lv_at hl 1 rfl) ?_
  have hPc := zP_right hP
  have hDc := zD_right hD
  refine z_calliR (va_runV (As := [.int p0]) (rest := [.int 0, .ref q]) ⟨hx, hb, hml, hown, hts⟩ (hM s.heap.size) (cwV 1 hts gL_append_X5_append rfl hr.1 hr.2.1 (by decide +kernel) ⟨hr.2.2.1, hr.2.2.2⟩) (zV (ci := 5) (q0 := 0) hK hPc hDc rfl h0) rfl rfl hl.1 rfl (lv_room (Nat.le_of_ble_eq_true rfl)) dL_append_4 ⟨(Nat.le_of_ble_eq_true rfl), (Nat.le_of_ble_eq_true rfl)⟩) hP hD hS hA (fun r u H locs hw hP hD hS => ?_)
  refine lv_i2l hx hb dL_append_7 rfl ?_
  refine z_last hx hb hK hP hD hS dL_append_8 (fun ow H locs how hP hD hS => ?_)
  refine lv_goto (tgt := 18) hx hb dL_append_9 (by decide) ?_
  refine lv_iconst (v := 0) hx hb dL_append_18 (by decide) ?_
  exact z_iret hx hb hr9 rfl hlocks (u, ow) hP hD hS (Nat.le_of_ble_eq_true rfl) (Nat.le_of_ble_eq_true rfl) dL_append_19 ⟨rfl, r, hw, how⟩
theorem zw_L_append_c13 : Cond.classLink RL 13 "java/lang/IllegalArgumentException" ∈ wsL_append := by decide +kernel
set_option maxRecDepth 100000 in
theorem wx_append_1 (l : Launch) (G : zG) (sz x q : Nat) (fs : List Value) (ov : Nat → Int64) (p0 : Int32) {WC : va_W} {rm : Room} (h0 : WC[0]? = some (x, .inr (5, fs))) (hr : rm.cells = 1 ∧ rm.slots = 6 ∧ rm.frames + 1 ≤ 10 ∧ 8 + (2 + 11) + rm.locals ≤ 300) (hM : ∀ z, zMx zNi l yX5_append wsX5_append rm [.ref x, .int p0] G WC "java/lang/IllegalArgumentException" z) : zMe l yL_append wsL_append zRW [.ref x, .int p0, .ref q] G (wO G q ov ++ WC) (fun v (_ : Unit) => v = 1) (fun _ => wO G q ov ++ WC) sz 1 6 := by
  refine zMe_of (cc := cL_append) (maxL := 4) (ret := (some .int)) (hh := [(0, 9, 12, 13), (0, 9, 15, 22)]) (by decide) rfl (Nat.le_of_ble_eq_true rfl) ?_
  intro p e s m args below meth c A ls hx hb hr9 hml hts hown hlocks hnm hK hP hD hAe hS hA hl hsz hZ hN hte
  have hown : s.vm.findClass RL = some m.cls := hown
  have hl : lv_has ls 4 [(0, .ref x), (1, .int p0), (2, .ref q)] := hl
  refine lv_aload_n hx hb dL_append_0 rfl (lv_at hl 2 rfl) ?_
  refine lv_iconst (v := 0) hx hb dL_append_1 (by decide) ?_
  refine lv_aload_n hx hb dL_append_2 rfl (lv_at hl 0 rfl) ?_
  refine lv_iload_n hx hb dL_append_3 rfl (lv_at hl 1 rfl) ?_
  have hPc := zP_right hP
  have hDc := zD_right hD
  refine z_callX (vx_runV (As := [.int p0]) (rest := [.int 0, .ref q]) ⟨hx, hb, hml, hown, hts⟩ (hM s.heap.size) (cwV 1 hts gL_append_X5_append rfl hr.1 hr.2.1 (by decide +kernel) ⟨hr.2.2.1, hr.2.2.2⟩) (zVx (ci := 5) (q0 := 0) hK hPc hDc hS hZ hA rfl h0) rfl rfl hl.1 rfl (lv_room (Nat.le_of_ble_eq_true rfl)) dL_append_4 ⟨(Nat.le_of_ble_eq_true rfl), (Nat.le_of_ble_eq_true rfl)⟩) hP hD hS hA (fun ce q9 H locs hP hD hS hce hcv hcl => ?_)
  refine vx_catch (name := "java/lang/IllegalArgumentException") hown [] ⟨0, 9, 12, 13⟩ [⟨0, 9, 15, 22⟩] hte (fun z hz => absurd hz List.not_mem_nil) (by decide) (by decide) (hts _ zw_L_append_c13) (va_Nw.use rfl (hZ.2.2.1 "java/lang/IllegalArgumentException" (by decide +kernel))) hce hcv hcl ?_
  refine W.eq (g2 := F0 m 12 ls [.ref q9]) rfl ?_
  refine lv_astore_n (lv' := [(3, .ref q9), (0, .ref x), (1, .int p0), (2, .ref q)]) hx hb dL_append_12 rfl hl (by decide) rfl (fun ls hl => ?_)
  refine lv_iconst (v := 1) hx hb dL_append_13 (by decide) ?_
  exact z_iret hx hb hr9 rfl hlocks () hP hD hS (Nat.le_of_ble_eq_true rfl) (Nat.le_of_ble_eq_true rfl) dL_append_14 rfl
theorem zw_L_append_c22 : Cond.classLink RL 22 "java/lang/IllegalStateException" ∈ wsL_append := by decide +kernel
set_option maxRecDepth 100000 in
theorem wx_append_2 (l : Launch) (G : zG) (sz x q : Nat) (fs : List Value) (ov : Nat → Int64) (p0 : Int32) {WC : va_W} {rm : Room} (h0 : WC[0]? = some (x, .inr (5, fs))) (hr : rm.cells = 1 ∧ rm.slots = 6 ∧ rm.frames + 1 ≤ 10 ∧ 8 + (2 + 11) + rm.locals ≤ 300) (hM : ∀ z, zMx zNi l yX5_append wsX5_append rm [.ref x, .int p0] G WC "java/lang/IllegalStateException" z) : zMe l yL_append wsL_append zRW [.ref x, .int p0, .ref q] G (wO G q ov ++ WC) (fun v (_ : Unit) => v = 2) (fun _ => wO G q ov ++ WC) sz 1 6 := by
  refine zMe_of (cc := cL_append) (maxL := 4) (ret := (some .int)) (hh := [(0, 9, 12, 13), (0, 9, 15, 22)]) (by decide) rfl (Nat.le_of_ble_eq_true rfl) ?_
  intro p e s m args below meth c A ls hx hb hr9 hml hts hown hlocks hnm hK hP hD hAe hS hA hl hsz hZ hN hte
  have hown : s.vm.findClass RL = some m.cls := hown
  have hl : lv_has ls 4 [(0, .ref x), (1, .int p0), (2, .ref q)] := hl
  refine lv_aload_n hx hb dL_append_0 rfl (lv_at hl 2 rfl) ?_
  refine lv_iconst (v := 0) hx hb dL_append_1 (by decide) ?_
  refine lv_aload_n hx hb dL_append_2 rfl (lv_at hl 0 rfl) ?_
  refine lv_iload_n hx hb dL_append_3 rfl (lv_at hl 1 rfl) ?_
  have hPc := zP_right hP
  have hDc := zD_right hD
  refine z_callX (vx_runV (As := [.int p0]) (rest := [.int 0, .ref q]) ⟨hx, hb, hml, hown, hts⟩ (hM s.heap.size) (cwV 1 hts gL_append_X5_append rfl hr.1 hr.2.1 (by decide +kernel) ⟨hr.2.2.1, hr.2.2.2⟩) (zVx (ci := 5) (q0 := 0) hK hPc hDc hS hZ hA rfl h0) rfl rfl hl.1 rfl (lv_room (Nat.le_of_ble_eq_true rfl)) dL_append_4 ⟨(Nat.le_of_ble_eq_true rfl), (Nat.le_of_ble_eq_true rfl)⟩) hP hD hS hA (fun ce q9 H locs hP hD hS hce hcv hcl => ?_)
  refine vx_catch (name := "java/lang/IllegalStateException") hown [⟨0, 9, 12, 13⟩] ⟨0, 9, 15, 22⟩ [] hte (fun z hz => by
    obtain rfl := List.mem_singleton.mp hz
    exact Or.inr ⟨by decide, "java/lang/IllegalArgumentException", hts _ zw_L_append_c13, hN.1⟩) (by decide) (by decide) (hts _ zw_L_append_c22) (va_Nw.use rfl (hZ.2.2.1 "java/lang/IllegalStateException" (by decide +kernel))) hce hcv hcl ?_
  refine W.eq (g2 := F0 m 15 ls [.ref q9]) rfl ?_
  refine lv_astore_n (lv' := [(3, .ref q9), (0, .ref x), (1, .int p0), (2, .ref q)]) hx hb dL_append_15 rfl hl (by decide) rfl (fun ls hl => ?_)
  refine lv_iconst (v := 2) hx hb dL_append_16 (by decide) ?_
  exact z_iret hx hb hr9 rfl hlocks () hP hD hS (Nat.le_of_ble_eq_true rfl) (Nat.le_of_ble_eq_true rfl) dL_append_17 rfl
set_option maxRecDepth 100000 in
theorem wk_run (l : Launch) (G : zG) (sz x q : Nat) (fs : List Value) (ov : Nat → Int64) {post : Int32 → zDc → Prop} {WC : va_W} {w1 : zDc → va_W} {rm : Room} (h0 : WC[0]? = some (x, .inr (5, fs))) (hr : rm.cells = 0 ∧ rm.slots = 0 ∧ rm.frames + 1 ≤ 10 ∧ 8 + (4 + 11) + rm.locals ≤ 300) (hM : ∀ z, zMi l yX5_run wsX5_run rm [.ref x] G WC post w1 z 0 0) : zMe l yL_run wsL_run zRW [.ref x, .ref q] G (wO G q ov ++ WC) (fun v (u : zDc × (Nat → Int64)) => v = 0 ∧ ∃ r, post r u.1 ∧ u.2 0 = r.toInt64) (fun u => wO G q u.2 ++ w1 u.1) sz 1 6 := by
  refine zMe_of (cc := cL_run) (maxL := 3) (ret := (some .int)) (hh := [(0, 8, 11, 13)]) (by decide) rfl (Nat.le_of_ble_eq_true rfl) ?_
  intro p e s m args below meth c A ls hx hb hr9 hml hts hown hlocks hnm hK hP hD hAe hS hA hl hsz hZ hN hte
  have hown : s.vm.findClass RL = some m.cls := hown
  have hl : lv_has ls 3 [(0, .ref x), (1, .ref q)] := hl
  refine lv_aload_n hx hb dL_run_0 rfl (lv_at hl 1 rfl) ?_
  refine lv_iconst (v := 0) hx hb dL_run_1 (by decide) ?_
  refine lv_aload_n hx hb dL_run_2 rfl (lv_at hl 0 rfl) ?_
  have hPc := zP_right hP
  have hDc := zD_right hD
  refine z_calliR (va_runV (As := []) (rest := [.int 0, .ref q]) ⟨hx, hb, hml, hown, hts⟩ (hM s.heap.size) (cwV 0 hts gL_run_X5_run rfl hr.1 hr.2.1 (by decide +kernel) ⟨hr.2.2.1, hr.2.2.2⟩) (zV (ci := 5) (q0 := 0) hK hPc hDc rfl h0) rfl rfl hl.1 rfl (lv_room (Nat.le_of_ble_eq_true rfl)) dL_run_3 ⟨(Nat.le_of_ble_eq_true rfl), (Nat.le_of_ble_eq_true rfl)⟩) hP hD hS hA (fun r u H locs hw hP hD hS => ?_)
  refine lv_i2l hx hb dL_run_6 rfl ?_
  refine z_last hx hb hK hP hD hS dL_run_7 (fun ow H locs how hP hD hS => ?_)
  refine lv_goto (tgt := 14) hx hb dL_run_8 (by decide) ?_
  refine lv_iconst (v := 0) hx hb dL_run_14 (by decide) ?_
  exact z_iret hx hb hr9 rfl hlocks (u, ow) hP hD hS (Nat.le_of_ble_eq_true rfl) (Nat.le_of_ble_eq_true rfl) dL_run_15 ⟨rfl, r, hw, how⟩
theorem zw_L_run_c13 : Cond.classLink RL 13 "java/lang/IllegalArgumentException" ∈ wsL_run := by decide +kernel
set_option maxRecDepth 100000 in
theorem wx_run_1 (l : Launch) (G : zG) (sz x q : Nat) (fs : List Value) (ov : Nat → Int64) {WC : va_W} {rm : Room} (h0 : WC[0]? = some (x, .inr (5, fs))) (hr : rm.cells = 1 ∧ rm.slots = 6 ∧ rm.frames + 1 ≤ 10 ∧ 8 + (4 + 11) + rm.locals ≤ 300) (hM : ∀ z, zMx zNi l yX5_run wsX5_run rm [.ref x] G WC "java/lang/IllegalArgumentException" z) : zMe l yL_run wsL_run zRW [.ref x, .ref q] G (wO G q ov ++ WC) (fun v (_ : Unit) => v = 1) (fun _ => wO G q ov ++ WC) sz 1 6 := by
  refine zMe_of (cc := cL_run) (maxL := 3) (ret := (some .int)) (hh := [(0, 8, 11, 13)]) (by decide) rfl (Nat.le_of_ble_eq_true rfl) ?_
  intro p e s m args below meth c A ls hx hb hr9 hml hts hown hlocks hnm hK hP hD hAe hS hA hl hsz hZ hN hte
  have hown : s.vm.findClass RL = some m.cls := hown
  have hl : lv_has ls 3 [(0, .ref x), (1, .ref q)] := hl
  refine lv_aload_n hx hb dL_run_0 rfl (lv_at hl 1 rfl) ?_
  refine lv_iconst (v := 0) hx hb dL_run_1 (by decide) ?_
  refine lv_aload_n hx hb dL_run_2 rfl (lv_at hl 0 rfl) ?_
  have hPc := zP_right hP
  have hDc := zD_right hD
  refine z_callX (vx_runV (As := []) (rest := [.int 0, .ref q]) ⟨hx, hb, hml, hown, hts⟩ (hM s.heap.size) (cwV 0 hts gL_run_X5_run rfl hr.1 hr.2.1 (by decide +kernel) ⟨hr.2.2.1, hr.2.2.2⟩) (zVx (ci := 5) (q0 := 0) hK hPc hDc hS hZ hA rfl h0) rfl rfl hl.1 rfl (lv_room (Nat.le_of_ble_eq_true rfl)) dL_run_3 ⟨(Nat.le_of_ble_eq_true rfl), (Nat.le_of_ble_eq_true rfl)⟩) hP hD hS hA (fun ce q9 H locs hP hD hS hce hcv hcl => ?_)
  refine vx_catch (name := "java/lang/IllegalArgumentException") hown [] ⟨0, 8, 11, 13⟩ [] hte (fun z hz => absurd hz List.not_mem_nil) (by decide) (by decide) (hts _ zw_L_run_c13) (va_Nw.use rfl (hZ.2.2.1 "java/lang/IllegalArgumentException" (by decide +kernel))) hce hcv hcl ?_
  refine W.eq (g2 := F0 m 11 ls [.ref q9]) rfl ?_
  refine lv_astore_n (lv' := [(2, .ref q9), (0, .ref x), (1, .ref q)]) hx hb dL_run_11 rfl hl (by decide) rfl (fun ls hl => ?_)
  refine lv_iconst (v := 1) hx hb dL_run_12 (by decide) ?_
  exact z_iret hx hb hr9 rfl hlocks () hP hD hS (Nat.le_of_ble_eq_true rfl) (Nat.le_of_ble_eq_true rfl) dL_run_13 rfl
set_option maxRecDepth 100000 in
theorem wk_undo (l : Launch) (G : zG) (sz x q : Nat) (fs : List Value) (ov : Nat → Int64) {post : Int32 → zDc → Prop} {WC : va_W} {w1 : zDc → va_W} {rm : Room} (h0 : WC[0]? = some (x, .inr (5, fs))) (hr : rm.cells = 0 ∧ rm.slots = 0 ∧ rm.frames + 1 ≤ 10 ∧ 8 + (1 + 11) + rm.locals ≤ 300) (hM : ∀ z, zMi l yX5_undo wsX5_undo rm [.ref x] G WC post w1 z 0 0) : zMe l yL_undo wsL_undo zRW [.ref x, .ref q] G (wO G q ov ++ WC) (fun v (u : zDc × (Nat → Int64)) => v = 0 ∧ ∃ r, post r u.1 ∧ u.2 0 = r.toInt64) (fun u => wO G q u.2 ++ w1 u.1) sz 1 6 := by
  refine zMe_of (cc := cL_undo) (maxL := 3) (ret := (some .int)) (hh := [(0, 8, 11, 22)]) (by decide) rfl (Nat.le_of_ble_eq_true rfl) ?_
  intro p e s m args below meth c A ls hx hb hr9 hml hts hown hlocks hnm hK hP hD hAe hS hA hl hsz hZ hN hte
  have hown : s.vm.findClass RL = some m.cls := hown
  have hl : lv_has ls 3 [(0, .ref x), (1, .ref q)] := hl
  refine lv_aload_n hx hb dL_undo_0 rfl (lv_at hl 1 rfl) ?_
  refine lv_iconst (v := 0) hx hb dL_undo_1 (by decide) ?_
  refine lv_aload_n hx hb dL_undo_2 rfl (lv_at hl 0 rfl) ?_
  have hPc := zP_right hP
  have hDc := zD_right hD
  refine z_calliR (va_runV (As := []) (rest := [.int 0, .ref q]) ⟨hx, hb, hml, hown, hts⟩ (hM s.heap.size) (cwV 0 hts gL_undo_X5_undo rfl hr.1 hr.2.1 (by decide +kernel) ⟨hr.2.2.1, hr.2.2.2⟩) (zV (ci := 5) (q0 := 0) hK hPc hDc rfl h0) rfl rfl hl.1 rfl (lv_room (Nat.le_of_ble_eq_true rfl)) dL_undo_3 ⟨(Nat.le_of_ble_eq_true rfl), (Nat.le_of_ble_eq_true rfl)⟩) hP hD hS hA (fun r u H locs hw hP hD hS => ?_)
  refine lv_i2l hx hb dL_undo_6 rfl ?_
  refine z_last hx hb hK hP hD hS dL_undo_7 (fun ow H locs how hP hD hS => ?_)
  refine lv_goto (tgt := 14) hx hb dL_undo_8 (by decide) ?_
  refine lv_iconst (v := 0) hx hb dL_undo_14 (by decide) ?_
  exact z_iret hx hb hr9 rfl hlocks (u, ow) hP hD hS (Nat.le_of_ble_eq_true rfl) (Nat.le_of_ble_eq_true rfl) dL_undo_15 ⟨rfl, r, hw, how⟩
theorem zw_L_undo_c22 : Cond.classLink RL 22 "java/lang/IllegalStateException" ∈ wsL_undo := by decide +kernel
set_option maxRecDepth 100000 in
theorem wx_undo_1 (l : Launch) (G : zG) (sz x q : Nat) (fs : List Value) (ov : Nat → Int64) {WC : va_W} {rm : Room} (h0 : WC[0]? = some (x, .inr (5, fs))) (hr : rm.cells = 1 ∧ rm.slots = 6 ∧ rm.frames + 1 ≤ 10 ∧ 8 + (1 + 11) + rm.locals ≤ 300) (hM : ∀ z, zMx zNi l yX5_undo wsX5_undo rm [.ref x] G WC "java/lang/IllegalStateException" z) : zMe l yL_undo wsL_undo zRW [.ref x, .ref q] G (wO G q ov ++ WC) (fun v (_ : Unit) => v = 1) (fun _ => wO G q ov ++ WC) sz 1 6 := by
  refine zMe_of (cc := cL_undo) (maxL := 3) (ret := (some .int)) (hh := [(0, 8, 11, 22)]) (by decide) rfl (Nat.le_of_ble_eq_true rfl) ?_
  intro p e s m args below meth c A ls hx hb hr9 hml hts hown hlocks hnm hK hP hD hAe hS hA hl hsz hZ hN hte
  have hown : s.vm.findClass RL = some m.cls := hown
  have hl : lv_has ls 3 [(0, .ref x), (1, .ref q)] := hl
  refine lv_aload_n hx hb dL_undo_0 rfl (lv_at hl 1 rfl) ?_
  refine lv_iconst (v := 0) hx hb dL_undo_1 (by decide) ?_
  refine lv_aload_n hx hb dL_undo_2 rfl (lv_at hl 0 rfl) ?_
  have hPc := zP_right hP
  have hDc := zD_right hD
  refine z_callX (vx_runV (As := []) (rest := [.int 0, .ref q]) ⟨hx, hb, hml, hown, hts⟩ (hM s.heap.size) (cwV 0 hts gL_undo_X5_undo rfl hr.1 hr.2.1 (by decide +kernel) ⟨hr.2.2.1, hr.2.2.2⟩) (zVx (ci := 5) (q0 := 0) hK hPc hDc hS hZ hA rfl h0) rfl rfl hl.1 rfl (lv_room (Nat.le_of_ble_eq_true rfl)) dL_undo_3 ⟨(Nat.le_of_ble_eq_true rfl), (Nat.le_of_ble_eq_true rfl)⟩) hP hD hS hA (fun ce q9 H locs hP hD hS hce hcv hcl => ?_)
  refine vx_catch (name := "java/lang/IllegalStateException") hown [] ⟨0, 8, 11, 22⟩ [] hte (fun z hz => absurd hz List.not_mem_nil) (by decide) (by decide) (hts _ zw_L_undo_c22) (va_Nw.use rfl (hZ.2.2.1 "java/lang/IllegalStateException" (by decide +kernel))) hce hcv hcl ?_
  refine W.eq (g2 := F0 m 11 ls [.ref q9]) rfl ?_
  refine lv_astore_n (lv' := [(2, .ref q9), (0, .ref x), (1, .ref q)]) hx hb dL_undo_11 rfl hl (by decide) rfl (fun ls hl => ?_)
  refine lv_iconst (v := 1) hx hb dL_undo_12 (by decide) ?_
  exact z_iret hx hb hr9 rfl hlocks () hP hD hS (Nat.le_of_ble_eq_true rfl) (Nat.le_of_ble_eq_true rfl) dL_undo_13 rfl
end WRAP
