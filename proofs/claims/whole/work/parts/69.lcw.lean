section LCW
set_option maxRecDepth 100000 in
theorem lc_frame {p : Program} {l : Launch} {e : Env} {s : State} {m : MethodId} {below : List Frame} {meth : Method} {c : Code} {bs L : Nat} {xs : Nat → Int32} {G : zG} {A : Nat → Prop} {H : Heap} {locs : List Loc} {ls : Array Slot} {cells slots : Nat} {Q : State → Prop} (C0 : lwX p s m c bs L xs G A) {i : Nat} (hi : i + 4 < L) {ad : zAd} {q : Nat} {d : Nat → Nat} {D : zDc} {M : zRd} {ov : Nat → Int64} {B : Nat}
    (h : crW l G ad q d D M ov B yL_frame wsL_frame yX6_frame wsX6_frame [.ref ad.2.2.1, .int (xs (i + 1)), .int (xs (i + 2)), .int (xs (i + 3)), .int (xs (i + 4)), .ref q] [.ref (d 0), .int (xs (i + 1)), .int (xs (i + 2)), .int (xs (i + 3)), .int (xs (i + 4))])
    (hl : lv_has ls 9 [(4, .int (nI i)), (3, .ref q), (2, .ref (d 0)), (1, .ref ad.2.2.1), (0, .ref bs)]) (hP : va_P G.1 vwCl ((wO G q ov ++ wCl G ad D) ++ wMd G d M) H) (hD : va_D A ((wO G q ov ++ wCl G ad D) ++ wMd G d M)) (hS : va_S A s.heap H locs) (hcl : cells + 1 ≤ 601024) (hsl : slots + 6 ≤ 7293034)
    (kk : ∀ (D' : zDc) (ov' : Nat → Int64) (M' : zRd) (H : Heap) (locs : List Loc) (ls : Array Slot), relA (B + 6200) D' M' → va_P G.1 vwCl ((wO G q ov' ++ wCl G ad D') ++ wMd G d M') H → va_D A ((wO G q ov' ++ wCl G ad D') ++ wMd G d M') → va_S A s.heap H locs → lv_has ls 9 [(4, .int (nI i)), (3, .ref q), (2, .ref (d 0)), (1, .ref ad.2.2.1), (0, .ref bs)] → W p l e room_1 s m #[Value.ref bs] below meth c H locs (cells + 1) (slots + 6) Q (F0 m 1392 ls [])) : W p l e room_1 s m #[Value.ref bs] below meth c H locs cells slots Q (F0 m 176 ls []) := by
  obtain ⟨hx, hb, hml, hown, hts, hX, hbl, hbA, hK, hZ, hN, hA, hL⟩ := C0
  obtain ⟨postc, postm, rm, h1, hr, h2, key⟩ := h
  refine lv_aload_n hx hb dL_law_176 rfl (lv_at hl 3 rfl) ?_
  refine lv_aload_n hx hb dL_law_177 rfl (lv_at hl 4 rfl) ?_
  refine lv_iload hx hb dL_law_178 (lv_at hl 0 rfl) ?_
  refine lv_iconst (v := 1) hx hb dL_law_180 (by decide) ?_
  refine lv_iadd hx hb dL_law_181 ?_
  refine z_top (show nI i + 1 = nI (i + 1) from nI_add i 1) ?_
  refine z_sld hx hb hX hbl hbA hS (i + 1) rfl (by omega) hL dL_law_182 ?_
  refine lv_aload_n hx hb dL_law_183 rfl (lv_at hl 4 rfl) ?_
  refine lv_iload hx hb dL_law_184 (lv_at hl 0 rfl) ?_
  refine lv_iconst (v := 2) hx hb dL_law_186 (by decide) ?_
  refine lv_iadd hx hb dL_law_187 ?_
  refine z_top (show nI i + 2 = nI (i + 2) from nI_add i 2) ?_
  refine z_sld hx hb hX hbl hbA hS (i + 2) rfl (by omega) hL dL_law_188 ?_
  refine lv_aload_n hx hb dL_law_189 rfl (lv_at hl 4 rfl) ?_
  refine lv_iload hx hb dL_law_190 (lv_at hl 0 rfl) ?_
  refine lv_iconst (v := 3) hx hb dL_law_192 (by decide) ?_
  refine lv_iadd hx hb dL_law_193 ?_
  refine z_top (show nI i + 3 = nI (i + 3) from nI_add i 3) ?_
  refine z_sld hx hb hX hbl hbA hS (i + 3) rfl (by omega) hL dL_law_194 ?_
  refine lv_aload_n hx hb dL_law_195 rfl (lv_at hl 4 rfl) ?_
  refine lv_iload hx hb dL_law_196 (lv_at hl 0 rfl) ?_
  refine lv_iconst (v := 4) hx hb dL_law_198 (by decide) ?_
  refine lv_iadd hx hb dL_law_199 ?_
  refine z_top (show nI i + 4 = nI (i + 4) from nI_add i 4) ?_
  refine z_sld hx hb hX hbl hbA hS (i + 4) rfl (by omega) hL dL_law_200 ?_
  refine lv_aload_n hx hb dL_law_201 rfl (lv_at hl 1 rfl) ?_
  refine z_calliL (vx_runSW (As := [.ref ad.2.2.1, .int (xs (i + 1)), .int (xs (i + 2)), .int (xs (i + 3)), .int (xs (i + 4)), .ref q]) (rest := []) ⟨hx, hb, hml, hown, hts⟩ (h1 H.size) (vx_cwSW 6 hts gL_law_L_frame rfl rfl rfl (by decide +kernel) ⟨(Nat.le_of_ble_eq_true rfl), (Nat.le_of_ble_eq_true rfl)⟩) (zSe hK (zP_left hP) (zD_left hD) hS hZ hN hA) rfl rfl hl.1 rfl (lv_room (Nat.le_of_ble_eq_true rfl)) dL_law_202 ⟨hcl, hsl⟩) hP hD hS hA (fun v u H locs hw hP hD hS => ?_)
  refine lv_istore (lv' := [(5, .int v), (4, .int (nI i)), (3, .ref q), (2, .ref (d 0)), (1, .ref ad.2.2.1), (0, .ref bs)]) hx hb dL_law_205 hl (by decide) rfl (fun ls hl => ?_)
  refine lv_aload_n hx hb dL_law_207 rfl (lv_at hl 3 rfl) ?_
  refine lv_aload_n hx hb dL_law_208 rfl (lv_at hl 5 rfl) ?_
  refine lv_iload hx hb dL_law_209 (lv_at hl 1 rfl) ?_
  refine lv_iconst (v := 1) hx hb dL_law_211 (by decide) ?_
  refine lv_iadd hx hb dL_law_212 ?_
  refine z_top (show nI i + 1 = nI (i + 1) from nI_add i 1) ?_
  refine z_sld hx hb hX hbl hbA hS (i + 1) rfl (by omega) hL dL_law_213 ?_
  refine lv_aload_n hx hb dL_law_214 rfl (lv_at hl 5 rfl) ?_
  refine lv_iload hx hb dL_law_215 (lv_at hl 1 rfl) ?_
  refine lv_iconst (v := 2) hx hb dL_law_217 (by decide) ?_
  refine lv_iadd hx hb dL_law_218 ?_
  refine z_top (show nI i + 2 = nI (i + 2) from nI_add i 2) ?_
  refine z_sld hx hb hX hbl hbA hS (i + 2) rfl (by omega) hL dL_law_219 ?_
  refine lv_aload_n hx hb dL_law_220 rfl (lv_at hl 5 rfl) ?_
  refine lv_iload hx hb dL_law_221 (lv_at hl 1 rfl) ?_
  refine lv_iconst (v := 3) hx hb dL_law_223 (by decide) ?_
  refine lv_iadd hx hb dL_law_224 ?_
  refine z_top (show nI i + 3 = nI (i + 3) from nI_add i 3) ?_
  refine z_sld hx hb hX hbl hbA hS (i + 3) rfl (by omega) hL dL_law_225 ?_
  refine lv_aload_n hx hb dL_law_226 rfl (lv_at hl 5 rfl) ?_
  refine lv_iload hx hb dL_law_227 (lv_at hl 1 rfl) ?_
  refine lv_iconst (v := 4) hx hb dL_law_229 (by decide) ?_
  refine lv_iadd hx hb dL_law_230 ?_
  refine z_top (show nI i + 4 = nI (i + 4) from nI_add i 4) ?_
  refine z_sld hx hb hX hbl hbA hS (i + 4) rfl (by omega) hL dL_law_231 ?_
  refine z_calliR (va_runV (As := [.int (xs (i + 1)), .int (xs (i + 2)), .int (xs (i + 3)), .int (xs (i + 4))]) (rest := []) ⟨hx, hb, hml, hown, hts⟩ (h2 H.size) (cwV 4 hts gL_law_X6_frame rfl hr.1 hr.2.1 (by decide +kernel) ⟨hr.2.2.1, by have := hr.2.2.2; show 8 + (5 + 11) + rm.locals ≤ 434; omega⟩) (zV (ci := 6) (q0 := 0) hK (zP_right hP) (zD_right hD) rfl (wMd_0 G d M)) rfl rfl hl.1 rfl (lv_room (Nat.le_of_ble_eq_true rfl)) dL_law_232 ⟨hcl, hsl⟩) hP hD hS hA (fun r M1 H locs hw2 hP hD hS => ?_)
  refine lv_istore (lv' := [(6, .int r), (5, .int v), (4, .int (nI i)), (3, .ref q), (2, .ref (d 0)), (1, .ref ad.2.2.1), (0, .ref bs)]) hx hb dL_law_235 hl (by decide) rfl (fun ls hl => ?_)
  refine lv_aload_n hx hb dL_law_237 rfl (lv_at hl 4 rfl) ?_
  refine z_calliR (va_runV (As := []) (rest := []) ⟨hx, hb, hml, hown, hts⟩ (kM_th l G H.size d M1) (cwV 0 hts gL_law_X6_thrown rfl rfl rfl (by decide +kernel) ⟨(Nat.le_of_ble_eq_true rfl), (Nat.le_of_ble_eq_true rfl)⟩) (zV (ci := 6) (q0 := 0) hK (zP_right hP) (zD_right hD) rfl (wMd_0 G d M1)) rfl rfl hl.1 rfl (lv_room (Nat.le_of_ble_eq_true rfl)) dL_law_238 ⟨hcl, hsl⟩) hP hD hS hA (fun t3 M3 H locs hw3 hP hD hS => ?_)
  obtain ⟨rfl, rfl⟩ := hw3
  obtain ⟨k1, k2, k3⟩ := key v u r _ hw hw2
  refine lv_iload hx hb dL_law_241 (lv_at hl 1 rfl) ?_
  refine lv_icmp_eq (tgt := 248) hx hb dL_law_243 (by decide) (fun c1 => ?_) (fun c1 => absurd k1 c1)
  refine lv_iload hx hb dL_law_248 (lv_at hl 1 rfl) ?_
  refine lv_if_ne (tgt := 265) hx hb dL_law_250 (by decide) (fun c2 => ?_) (fun c2 => ?_)
  · refine lv_goto (tgt := 1392) hx hb dL_law_265 (by decide) ?_
    exact kk u.1 u.2 _ _ _ _ k3 hP hD hS (lv_sub hl [2, 3, 4, 5, 6] rfl)
  · refine lv_aload_n hx hb dL_law_253 rfl (lv_at hl 3 rfl) ?_
    refine lv_iconst (v := 0) hx hb dL_law_254 (by decide) ?_
    refine z_lald hx hb hK (zP_asc hP) dL_law_255 ?_
    refine lv_iload hx hb dL_law_256 (lv_at hl 0 rfl) ?_
    refine lv_i2l hx hb dL_law_258 rfl ?_
    refine W.lcmp hx hb dL_law_259 ?_
    refine lv_if_eq (tgt := 265) hx hb dL_law_260 (by decide) (fun c3 => ?_) (fun c3 => absurd (z_cmp0 (k2 c2)) c3)
    refine lv_goto (tgt := 1392) hx hb dL_law_265 (by decide) ?_
    exact kk u.1 u.2 _ _ _ _ k3 hP hD hS (lv_sub hl [2, 3, 4, 5, 6] rfl)
set_option maxRecDepth 100000 in
theorem lc_repeat {p : Program} {l : Launch} {e : Env} {s : State} {m : MethodId} {below : List Frame} {meth : Method} {c : Code} {bs L : Nat} {xs : Nat → Int32} {G : zG} {A : Nat → Prop} {H : Heap} {locs : List Loc} {ls : Array Slot} {cells slots : Nat} {Q : State → Prop} (C0 : lwX p s m c bs L xs G A) {i : Nat} (hi : i + 4 < L) {ad : zAd} {q : Nat} {d : Nat → Nat} {D : zDc} {M : zRd} {ov : Nat → Int64} {B : Nat}
    (h : crW l G ad q d D M ov B yL_repeat wsL_repeat yX6_repeat wsX6_repeat [.ref ad.2.2.1, .int (xs (i + 1)), .ref q] [.ref (d 0), .int (xs (i + 1))])
    (hl : lv_has ls 9 [(4, .int (nI i)), (3, .ref q), (2, .ref (d 0)), (1, .ref ad.2.2.1), (0, .ref bs)]) (hP : va_P G.1 vwCl ((wO G q ov ++ wCl G ad D) ++ wMd G d M) H) (hD : va_D A ((wO G q ov ++ wCl G ad D) ++ wMd G d M)) (hS : va_S A s.heap H locs) (hcl : cells + 1 ≤ 601024) (hsl : slots + 6 ≤ 7293034)
    (kk : ∀ (D' : zDc) (ov' : Nat → Int64) (M' : zRd) (H : Heap) (locs : List Loc) (ls : Array Slot), relA (B + 6200) D' M' → va_P G.1 vwCl ((wO G q ov' ++ wCl G ad D') ++ wMd G d M') H → va_D A ((wO G q ov' ++ wCl G ad D') ++ wMd G d M') → va_S A s.heap H locs → lv_has ls 9 [(4, .int (nI i)), (3, .ref q), (2, .ref (d 0)), (1, .ref ad.2.2.1), (0, .ref bs)] → W p l e room_1 s m #[Value.ref bs] below meth c H locs (cells + 1) (slots + 6) Q (F0 m 1392 ls [])) : W p l e room_1 s m #[Value.ref bs] below meth c H locs cells slots Q (F0 m 268 ls []) := by
  obtain ⟨hx, hb, hml, hown, hts, hX, hbl, hbA, hK, hZ, hN, hA, hL⟩ := C0
  obtain ⟨postc, postm, rm, h1, hr, h2, key⟩ := h
  refine lv_aload_n hx hb dL_law_268 rfl (lv_at hl 3 rfl) ?_
  refine lv_aload_n hx hb dL_law_269 rfl (lv_at hl 4 rfl) ?_
  refine lv_iload hx hb dL_law_270 (lv_at hl 0 rfl) ?_
  refine lv_iconst (v := 1) hx hb dL_law_272 (by decide) ?_
  refine lv_iadd hx hb dL_law_273 ?_
  refine z_top (show nI i + 1 = nI (i + 1) from nI_add i 1) ?_
  refine z_sld hx hb hX hbl hbA hS (i + 1) rfl (by omega) hL dL_law_274 ?_
  refine lv_aload_n hx hb dL_law_275 rfl (lv_at hl 1 rfl) ?_
  refine z_calliL (vx_runSW (As := [.ref ad.2.2.1, .int (xs (i + 1)), .ref q]) (rest := []) ⟨hx, hb, hml, hown, hts⟩ (h1 H.size) (vx_cwSW 3 hts gL_law_L_repeat rfl rfl rfl (by decide +kernel) ⟨(Nat.le_of_ble_eq_true rfl), (Nat.le_of_ble_eq_true rfl)⟩) (zSe hK (zP_left hP) (zD_left hD) hS hZ hN hA) rfl rfl hl.1 rfl (lv_room (Nat.le_of_ble_eq_true rfl)) dL_law_276 ⟨hcl, hsl⟩) hP hD hS hA (fun v u H locs hw hP hD hS => ?_)
  refine lv_istore (lv' := [(5, .int v), (4, .int (nI i)), (3, .ref q), (2, .ref (d 0)), (1, .ref ad.2.2.1), (0, .ref bs)]) hx hb dL_law_279 hl (by decide) rfl (fun ls hl => ?_)
  refine lv_aload_n hx hb dL_law_281 rfl (lv_at hl 3 rfl) ?_
  refine lv_aload_n hx hb dL_law_282 rfl (lv_at hl 5 rfl) ?_
  refine lv_iload hx hb dL_law_283 (lv_at hl 1 rfl) ?_
  refine lv_iconst (v := 1) hx hb dL_law_285 (by decide) ?_
  refine lv_iadd hx hb dL_law_286 ?_
  refine z_top (show nI i + 1 = nI (i + 1) from nI_add i 1) ?_
  refine z_sld hx hb hX hbl hbA hS (i + 1) rfl (by omega) hL dL_law_287 ?_
  refine z_calliR (va_runV (As := [.int (xs (i + 1))]) (rest := []) ⟨hx, hb, hml, hown, hts⟩ (h2 H.size) (cwV 1 hts gL_law_X6_repeat rfl hr.1 hr.2.1 (by decide +kernel) ⟨hr.2.2.1, by have := hr.2.2.2; show 8 + (2 + 11) + rm.locals ≤ 434; omega⟩) (zV (ci := 6) (q0 := 0) hK (zP_right hP) (zD_right hD) rfl (wMd_0 G d M)) rfl rfl hl.1 rfl (lv_room (Nat.le_of_ble_eq_true rfl)) dL_law_288 ⟨hcl, hsl⟩) hP hD hS hA (fun r M1 H locs hw2 hP hD hS => ?_)
  refine lv_istore (lv' := [(6, .int r), (5, .int v), (4, .int (nI i)), (3, .ref q), (2, .ref (d 0)), (1, .ref ad.2.2.1), (0, .ref bs)]) hx hb dL_law_291 hl (by decide) rfl (fun ls hl => ?_)
  refine lv_aload_n hx hb dL_law_293 rfl (lv_at hl 4 rfl) ?_
  refine z_calliR (va_runV (As := []) (rest := []) ⟨hx, hb, hml, hown, hts⟩ (kM_th l G H.size d M1) (cwV 0 hts gL_law_X6_thrown rfl rfl rfl (by decide +kernel) ⟨(Nat.le_of_ble_eq_true rfl), (Nat.le_of_ble_eq_true rfl)⟩) (zV (ci := 6) (q0 := 0) hK (zP_right hP) (zD_right hD) rfl (wMd_0 G d M1)) rfl rfl hl.1 rfl (lv_room (Nat.le_of_ble_eq_true rfl)) dL_law_294 ⟨hcl, hsl⟩) hP hD hS hA (fun t3 M3 H locs hw3 hP hD hS => ?_)
  obtain ⟨rfl, rfl⟩ := hw3
  obtain ⟨k1, k2, k3⟩ := key v u r _ hw hw2
  refine lv_iload hx hb dL_law_297 (lv_at hl 1 rfl) ?_
  refine lv_icmp_eq (tgt := 304) hx hb dL_law_299 (by decide) (fun c1 => ?_) (fun c1 => absurd k1 c1)
  refine lv_iload hx hb dL_law_304 (lv_at hl 1 rfl) ?_
  refine lv_if_ne (tgt := 321) hx hb dL_law_306 (by decide) (fun c2 => ?_) (fun c2 => ?_)
  · refine lv_goto (tgt := 1392) hx hb dL_law_321 (by decide) ?_
    exact kk u.1 u.2 _ _ _ _ k3 hP hD hS (lv_sub hl [2, 3, 4, 5, 6] rfl)
  · refine lv_aload_n hx hb dL_law_309 rfl (lv_at hl 3 rfl) ?_
    refine lv_iconst (v := 0) hx hb dL_law_310 (by decide) ?_
    refine z_lald hx hb hK (zP_asc hP) dL_law_311 ?_
    refine lv_iload hx hb dL_law_312 (lv_at hl 0 rfl) ?_
    refine lv_i2l hx hb dL_law_314 rfl ?_
    refine W.lcmp hx hb dL_law_315 ?_
    refine lv_if_eq (tgt := 321) hx hb dL_law_316 (by decide) (fun c3 => ?_) (fun c3 => absurd (z_cmp0 (k2 c2)) c3)
    refine lv_goto (tgt := 1392) hx hb dL_law_321 (by decide) ?_
    exact kk u.1 u.2 _ _ _ _ k3 hP hD hS (lv_sub hl [2, 3, 4, 5, 6] rfl)
set_option maxRecDepth 100000 in
theorem lc_receive {p : Program} {l : Launch} {e : Env} {s : State} {m : MethodId} {below : List Frame} {meth : Method} {c : Code} {bs L : Nat} {xs : Nat → Int32} {G : zG} {A : Nat → Prop} {H : Heap} {locs : List Loc} {ls : Array Slot} {cells slots : Nat} {Q : State → Prop} (C0 : lwX p s m c bs L xs G A) {i : Nat} (hi : i + 4 < L) {ad : zAd} {q : Nat} {d : Nat → Nat} {D : zDc} {M : zRd} {ov : Nat → Int64} {B : Nat}
    (h : crW l G ad q d D M ov B yL_receive wsL_receive yX6_receive wsX6_receive [.ref ad.2.2.1, .int (xs (i + 1)), .ref q] [.ref (d 0), .int (xs (i + 1))])
    (hl : lv_has ls 9 [(4, .int (nI i)), (3, .ref q), (2, .ref (d 0)), (1, .ref ad.2.2.1), (0, .ref bs)]) (hP : va_P G.1 vwCl ((wO G q ov ++ wCl G ad D) ++ wMd G d M) H) (hD : va_D A ((wO G q ov ++ wCl G ad D) ++ wMd G d M)) (hS : va_S A s.heap H locs) (hcl : cells + 1 ≤ 601024) (hsl : slots + 6 ≤ 7293034)
    (kk : ∀ (D' : zDc) (ov' : Nat → Int64) (M' : zRd) (H : Heap) (locs : List Loc) (ls : Array Slot), relA (B + 6200) D' M' → va_P G.1 vwCl ((wO G q ov' ++ wCl G ad D') ++ wMd G d M') H → va_D A ((wO G q ov' ++ wCl G ad D') ++ wMd G d M') → va_S A s.heap H locs → lv_has ls 9 [(4, .int (nI i)), (3, .ref q), (2, .ref (d 0)), (1, .ref ad.2.2.1), (0, .ref bs)] → W p l e room_1 s m #[Value.ref bs] below meth c H locs (cells + 1) (slots + 6) Q (F0 m 1392 ls [])) : W p l e room_1 s m #[Value.ref bs] below meth c H locs cells slots Q (F0 m 324 ls []) := by
  obtain ⟨hx, hb, hml, hown, hts, hX, hbl, hbA, hK, hZ, hN, hA, hL⟩ := C0
  obtain ⟨postc, postm, rm, h1, hr, h2, key⟩ := h
  refine lv_aload_n hx hb dL_law_324 rfl (lv_at hl 3 rfl) ?_
  refine lv_aload_n hx hb dL_law_325 rfl (lv_at hl 4 rfl) ?_
  refine lv_iload hx hb dL_law_326 (lv_at hl 0 rfl) ?_
  refine lv_iconst (v := 1) hx hb dL_law_328 (by decide) ?_
  refine lv_iadd hx hb dL_law_329 ?_
  refine z_top (show nI i + 1 = nI (i + 1) from nI_add i 1) ?_
  refine z_sld hx hb hX hbl hbA hS (i + 1) rfl (by omega) hL dL_law_330 ?_
  refine lv_aload_n hx hb dL_law_331 rfl (lv_at hl 1 rfl) ?_
  refine z_calliL (vx_runSW (As := [.ref ad.2.2.1, .int (xs (i + 1)), .ref q]) (rest := []) ⟨hx, hb, hml, hown, hts⟩ (h1 H.size) (vx_cwSW 3 hts gL_law_L_receive rfl rfl rfl (by decide +kernel) ⟨(Nat.le_of_ble_eq_true rfl), (Nat.le_of_ble_eq_true rfl)⟩) (zSe hK (zP_left hP) (zD_left hD) hS hZ hN hA) rfl rfl hl.1 rfl (lv_room (Nat.le_of_ble_eq_true rfl)) dL_law_332 ⟨hcl, hsl⟩) hP hD hS hA (fun v u H locs hw hP hD hS => ?_)
  refine lv_istore (lv' := [(5, .int v), (4, .int (nI i)), (3, .ref q), (2, .ref (d 0)), (1, .ref ad.2.2.1), (0, .ref bs)]) hx hb dL_law_335 hl (by decide) rfl (fun ls hl => ?_)
  refine lv_aload_n hx hb dL_law_337 rfl (lv_at hl 3 rfl) ?_
  refine lv_aload_n hx hb dL_law_338 rfl (lv_at hl 5 rfl) ?_
  refine lv_iload hx hb dL_law_339 (lv_at hl 1 rfl) ?_
  refine lv_iconst (v := 1) hx hb dL_law_341 (by decide) ?_
  refine lv_iadd hx hb dL_law_342 ?_
  refine z_top (show nI i + 1 = nI (i + 1) from nI_add i 1) ?_
  refine z_sld hx hb hX hbl hbA hS (i + 1) rfl (by omega) hL dL_law_343 ?_
  refine z_calliR (va_runV (As := [.int (xs (i + 1))]) (rest := []) ⟨hx, hb, hml, hown, hts⟩ (h2 H.size) (cwV 1 hts gL_law_X6_receive rfl hr.1 hr.2.1 (by decide +kernel) ⟨hr.2.2.1, by have := hr.2.2.2; show 8 + (3 + 11) + rm.locals ≤ 434; omega⟩) (zV (ci := 6) (q0 := 0) hK (zP_right hP) (zD_right hD) rfl (wMd_0 G d M)) rfl rfl hl.1 rfl (lv_room (Nat.le_of_ble_eq_true rfl)) dL_law_344 ⟨hcl, hsl⟩) hP hD hS hA (fun r M1 H locs hw2 hP hD hS => ?_)
  refine lv_istore (lv' := [(6, .int r), (5, .int v), (4, .int (nI i)), (3, .ref q), (2, .ref (d 0)), (1, .ref ad.2.2.1), (0, .ref bs)]) hx hb dL_law_347 hl (by decide) rfl (fun ls hl => ?_)
  refine lv_aload_n hx hb dL_law_349 rfl (lv_at hl 4 rfl) ?_
  refine z_calliR (va_runV (As := []) (rest := []) ⟨hx, hb, hml, hown, hts⟩ (kM_th l G H.size d M1) (cwV 0 hts gL_law_X6_thrown rfl rfl rfl (by decide +kernel) ⟨(Nat.le_of_ble_eq_true rfl), (Nat.le_of_ble_eq_true rfl)⟩) (zV (ci := 6) (q0 := 0) hK (zP_right hP) (zD_right hD) rfl (wMd_0 G d M1)) rfl rfl hl.1 rfl (lv_room (Nat.le_of_ble_eq_true rfl)) dL_law_350 ⟨hcl, hsl⟩) hP hD hS hA (fun t3 M3 H locs hw3 hP hD hS => ?_)
  obtain ⟨rfl, rfl⟩ := hw3
  obtain ⟨k1, k2, k3⟩ := key v u r _ hw hw2
  refine lv_iload hx hb dL_law_353 (lv_at hl 1 rfl) ?_
  refine lv_icmp_eq (tgt := 360) hx hb dL_law_355 (by decide) (fun c1 => ?_) (fun c1 => absurd k1 c1)
  refine lv_iload hx hb dL_law_360 (lv_at hl 1 rfl) ?_
  refine lv_if_ne (tgt := 377) hx hb dL_law_362 (by decide) (fun c2 => ?_) (fun c2 => ?_)
  · refine lv_goto (tgt := 1392) hx hb dL_law_377 (by decide) ?_
    exact kk u.1 u.2 _ _ _ _ k3 hP hD hS (lv_sub hl [2, 3, 4, 5, 6] rfl)
  · refine lv_aload_n hx hb dL_law_365 rfl (lv_at hl 3 rfl) ?_
    refine lv_iconst (v := 0) hx hb dL_law_366 (by decide) ?_
    refine z_lald hx hb hK (zP_asc hP) dL_law_367 ?_
    refine lv_iload hx hb dL_law_368 (lv_at hl 0 rfl) ?_
    refine lv_i2l hx hb dL_law_370 rfl ?_
    refine W.lcmp hx hb dL_law_371 ?_
    refine lv_if_eq (tgt := 377) hx hb dL_law_372 (by decide) (fun c3 => ?_) (fun c3 => absurd (z_cmp0 (k2 c2)) c3)
    refine lv_goto (tgt := 1392) hx hb dL_law_377 (by decide) ?_
    exact kk u.1 u.2 _ _ _ _ k3 hP hD hS (lv_sub hl [2, 3, 4, 5, 6] rfl)
set_option maxRecDepth 100000 in
theorem lc_shine {p : Program} {l : Launch} {e : Env} {s : State} {m : MethodId} {below : List Frame} {meth : Method} {c : Code} {bs L : Nat} {xs : Nat → Int32} {G : zG} {A : Nat → Prop} {H : Heap} {locs : List Loc} {ls : Array Slot} {cells slots : Nat} {Q : State → Prop} (C0 : lwX p s m c bs L xs G A) {i : Nat} (hi : i + 4 < L) {ad : zAd} {q : Nat} {d : Nat → Nat} {D : zDc} {M : zRd} {ov : Nat → Int64} {B : Nat}
    (h : crW l G ad q d D M ov B yL_shine wsL_shine yX6_shine wsX6_shine [.ref ad.2.2.1, .int (xs (i + 1)), .ref q] [.ref (d 0), .int (xs (i + 1))])
    (hl : lv_has ls 9 [(4, .int (nI i)), (3, .ref q), (2, .ref (d 0)), (1, .ref ad.2.2.1), (0, .ref bs)]) (hP : va_P G.1 vwCl ((wO G q ov ++ wCl G ad D) ++ wMd G d M) H) (hD : va_D A ((wO G q ov ++ wCl G ad D) ++ wMd G d M)) (hS : va_S A s.heap H locs) (hcl : cells + 1 ≤ 601024) (hsl : slots + 6 ≤ 7293034)
    (kk : ∀ (D' : zDc) (ov' : Nat → Int64) (M' : zRd) (H : Heap) (locs : List Loc) (ls : Array Slot), relA (B + 6200) D' M' → va_P G.1 vwCl ((wO G q ov' ++ wCl G ad D') ++ wMd G d M') H → va_D A ((wO G q ov' ++ wCl G ad D') ++ wMd G d M') → va_S A s.heap H locs → lv_has ls 9 [(4, .int (nI i)), (3, .ref q), (2, .ref (d 0)), (1, .ref ad.2.2.1), (0, .ref bs)] → W p l e room_1 s m #[Value.ref bs] below meth c H locs (cells + 1) (slots + 6) Q (F0 m 1392 ls [])) : W p l e room_1 s m #[Value.ref bs] below meth c H locs cells slots Q (F0 m 380 ls []) := by
  obtain ⟨hx, hb, hml, hown, hts, hX, hbl, hbA, hK, hZ, hN, hA, hL⟩ := C0
  obtain ⟨postc, postm, rm, h1, hr, h2, key⟩ := h
  refine lv_aload_n hx hb dL_law_380 rfl (lv_at hl 3 rfl) ?_
  refine lv_aload_n hx hb dL_law_381 rfl (lv_at hl 4 rfl) ?_
  refine lv_iload hx hb dL_law_382 (lv_at hl 0 rfl) ?_
  refine lv_iconst (v := 1) hx hb dL_law_384 (by decide) ?_
  refine lv_iadd hx hb dL_law_385 ?_
  refine z_top (show nI i + 1 = nI (i + 1) from nI_add i 1) ?_
  refine z_sld hx hb hX hbl hbA hS (i + 1) rfl (by omega) hL dL_law_386 ?_
  refine lv_aload_n hx hb dL_law_387 rfl (lv_at hl 1 rfl) ?_
  refine z_calliL (vx_runSW (As := [.ref ad.2.2.1, .int (xs (i + 1)), .ref q]) (rest := []) ⟨hx, hb, hml, hown, hts⟩ (h1 H.size) (vx_cwSW 3 hts gL_law_L_shine rfl rfl rfl (by decide +kernel) ⟨(Nat.le_of_ble_eq_true rfl), (Nat.le_of_ble_eq_true rfl)⟩) (zSe hK (zP_left hP) (zD_left hD) hS hZ hN hA) rfl rfl hl.1 rfl (lv_room (Nat.le_of_ble_eq_true rfl)) dL_law_388 ⟨hcl, hsl⟩) hP hD hS hA (fun v u H locs hw hP hD hS => ?_)
  refine lv_istore (lv' := [(5, .int v), (4, .int (nI i)), (3, .ref q), (2, .ref (d 0)), (1, .ref ad.2.2.1), (0, .ref bs)]) hx hb dL_law_391 hl (by decide) rfl (fun ls hl => ?_)
  refine lv_aload_n hx hb dL_law_393 rfl (lv_at hl 3 rfl) ?_
  refine lv_aload_n hx hb dL_law_394 rfl (lv_at hl 5 rfl) ?_
  refine lv_iload hx hb dL_law_395 (lv_at hl 1 rfl) ?_
  refine lv_iconst (v := 1) hx hb dL_law_397 (by decide) ?_
  refine lv_iadd hx hb dL_law_398 ?_
  refine z_top (show nI i + 1 = nI (i + 1) from nI_add i 1) ?_
  refine z_sld hx hb hX hbl hbA hS (i + 1) rfl (by omega) hL dL_law_399 ?_
  refine z_calliR (va_runV (As := [.int (xs (i + 1))]) (rest := []) ⟨hx, hb, hml, hown, hts⟩ (h2 H.size) (cwV 1 hts gL_law_X6_shine rfl hr.1 hr.2.1 (by decide +kernel) ⟨hr.2.2.1, by have := hr.2.2.2; show 8 + (2 + 11) + rm.locals ≤ 434; omega⟩) (zV (ci := 6) (q0 := 0) hK (zP_right hP) (zD_right hD) rfl (wMd_0 G d M)) rfl rfl hl.1 rfl (lv_room (Nat.le_of_ble_eq_true rfl)) dL_law_400 ⟨hcl, hsl⟩) hP hD hS hA (fun r M1 H locs hw2 hP hD hS => ?_)
  refine lv_istore (lv' := [(6, .int r), (5, .int v), (4, .int (nI i)), (3, .ref q), (2, .ref (d 0)), (1, .ref ad.2.2.1), (0, .ref bs)]) hx hb dL_law_403 hl (by decide) rfl (fun ls hl => ?_)
  refine lv_aload_n hx hb dL_law_405 rfl (lv_at hl 4 rfl) ?_
  refine z_calliR (va_runV (As := []) (rest := []) ⟨hx, hb, hml, hown, hts⟩ (kM_th l G H.size d M1) (cwV 0 hts gL_law_X6_thrown rfl rfl rfl (by decide +kernel) ⟨(Nat.le_of_ble_eq_true rfl), (Nat.le_of_ble_eq_true rfl)⟩) (zV (ci := 6) (q0 := 0) hK (zP_right hP) (zD_right hD) rfl (wMd_0 G d M1)) rfl rfl hl.1 rfl (lv_room (Nat.le_of_ble_eq_true rfl)) dL_law_406 ⟨hcl, hsl⟩) hP hD hS hA (fun t3 M3 H locs hw3 hP hD hS => ?_)
  obtain ⟨rfl, rfl⟩ := hw3
  obtain ⟨k1, k2, k3⟩ := key v u r _ hw hw2
  refine lv_iload hx hb dL_law_409 (lv_at hl 1 rfl) ?_
  refine lv_icmp_eq (tgt := 416) hx hb dL_law_411 (by decide) (fun c1 => ?_) (fun c1 => absurd k1 c1)
  refine lv_iload hx hb dL_law_416 (lv_at hl 1 rfl) ?_
  refine lv_if_ne (tgt := 433) hx hb dL_law_418 (by decide) (fun c2 => ?_) (fun c2 => ?_)
  · refine lv_goto (tgt := 1392) hx hb dL_law_433 (by decide) ?_
    exact kk u.1 u.2 _ _ _ _ k3 hP hD hS (lv_sub hl [2, 3, 4, 5, 6] rfl)
  · refine lv_aload_n hx hb dL_law_421 rfl (lv_at hl 3 rfl) ?_
    refine lv_iconst (v := 0) hx hb dL_law_422 (by decide) ?_
    refine z_lald hx hb hK (zP_asc hP) dL_law_423 ?_
    refine lv_iload hx hb dL_law_424 (lv_at hl 0 rfl) ?_
    refine lv_i2l hx hb dL_law_426 rfl ?_
    refine W.lcmp hx hb dL_law_427 ?_
    refine lv_if_eq (tgt := 433) hx hb dL_law_428 (by decide) (fun c3 => ?_) (fun c3 => absurd (z_cmp0 (k2 c2)) c3)
    refine lv_goto (tgt := 1392) hx hb dL_law_433 (by decide) ?_
    exact kk u.1 u.2 _ _ _ _ k3 hP hD hS (lv_sub hl [2, 3, 4, 5, 6] rfl)
set_option maxRecDepth 100000 in
theorem lc_pass {p : Program} {l : Launch} {e : Env} {s : State} {m : MethodId} {below : List Frame} {meth : Method} {c : Code} {bs L : Nat} {xs : Nat → Int32} {G : zG} {A : Nat → Prop} {H : Heap} {locs : List Loc} {ls : Array Slot} {cells slots : Nat} {Q : State → Prop} (C0 : lwX p s m c bs L xs G A) {i : Nat} (hi : i + 4 < L) {ad : zAd} {q : Nat} {d : Nat → Nat} {D : zDc} {M : zRd} {ov : Nat → Int64} {B : Nat}
    (h : crW l G ad q d D M ov B yL_pass wsL_pass yX6_pass wsX6_pass [.ref ad.2.2.1, .int (xs (i + 1)), .ref q] [.ref (d 0), .int (xs (i + 1))])
    (hl : lv_has ls 9 [(4, .int (nI i)), (3, .ref q), (2, .ref (d 0)), (1, .ref ad.2.2.1), (0, .ref bs)]) (hP : va_P G.1 vwCl ((wO G q ov ++ wCl G ad D) ++ wMd G d M) H) (hD : va_D A ((wO G q ov ++ wCl G ad D) ++ wMd G d M)) (hS : va_S A s.heap H locs) (hcl : cells + 1 ≤ 601024) (hsl : slots + 6 ≤ 7293034)
    (kk : ∀ (D' : zDc) (ov' : Nat → Int64) (M' : zRd) (H : Heap) (locs : List Loc) (ls : Array Slot), relA (B + 6200) D' M' → va_P G.1 vwCl ((wO G q ov' ++ wCl G ad D') ++ wMd G d M') H → va_D A ((wO G q ov' ++ wCl G ad D') ++ wMd G d M') → va_S A s.heap H locs → lv_has ls 9 [(4, .int (nI i)), (3, .ref q), (2, .ref (d 0)), (1, .ref ad.2.2.1), (0, .ref bs)] → W p l e room_1 s m #[Value.ref bs] below meth c H locs (cells + 1) (slots + 6) Q (F0 m 1392 ls [])) : W p l e room_1 s m #[Value.ref bs] below meth c H locs cells slots Q (F0 m 436 ls []) := by
  obtain ⟨hx, hb, hml, hown, hts, hX, hbl, hbA, hK, hZ, hN, hA, hL⟩ := C0
  obtain ⟨postc, postm, rm, h1, hr, h2, key⟩ := h
  refine lv_aload_n hx hb dL_law_436 rfl (lv_at hl 3 rfl) ?_
  refine lv_aload_n hx hb dL_law_437 rfl (lv_at hl 4 rfl) ?_
  refine lv_iload hx hb dL_law_438 (lv_at hl 0 rfl) ?_
  refine lv_iconst (v := 1) hx hb dL_law_440 (by decide) ?_
  refine lv_iadd hx hb dL_law_441 ?_
  refine z_top (show nI i + 1 = nI (i + 1) from nI_add i 1) ?_
  refine z_sld hx hb hX hbl hbA hS (i + 1) rfl (by omega) hL dL_law_442 ?_
  refine lv_aload_n hx hb dL_law_443 rfl (lv_at hl 1 rfl) ?_
  refine z_calliL (vx_runSW (As := [.ref ad.2.2.1, .int (xs (i + 1)), .ref q]) (rest := []) ⟨hx, hb, hml, hown, hts⟩ (h1 H.size) (vx_cwSW 3 hts gL_law_L_pass rfl rfl rfl (by decide +kernel) ⟨(Nat.le_of_ble_eq_true rfl), (Nat.le_of_ble_eq_true rfl)⟩) (zSe hK (zP_left hP) (zD_left hD) hS hZ hN hA) rfl rfl hl.1 rfl (lv_room (Nat.le_of_ble_eq_true rfl)) dL_law_444 ⟨hcl, hsl⟩) hP hD hS hA (fun v u H locs hw hP hD hS => ?_)
  refine lv_istore (lv' := [(5, .int v), (4, .int (nI i)), (3, .ref q), (2, .ref (d 0)), (1, .ref ad.2.2.1), (0, .ref bs)]) hx hb dL_law_447 hl (by decide) rfl (fun ls hl => ?_)
  refine lv_aload_n hx hb dL_law_449 rfl (lv_at hl 3 rfl) ?_
  refine lv_aload_n hx hb dL_law_450 rfl (lv_at hl 5 rfl) ?_
  refine lv_iload hx hb dL_law_451 (lv_at hl 1 rfl) ?_
  refine lv_iconst (v := 1) hx hb dL_law_453 (by decide) ?_
  refine lv_iadd hx hb dL_law_454 ?_
  refine z_top (show nI i + 1 = nI (i + 1) from nI_add i 1) ?_
  refine z_sld hx hb hX hbl hbA hS (i + 1) rfl (by omega) hL dL_law_455 ?_
  refine z_calliR (va_runV (As := [.int (xs (i + 1))]) (rest := []) ⟨hx, hb, hml, hown, hts⟩ (h2 H.size) (cwV 1 hts gL_law_X6_pass rfl hr.1 hr.2.1 (by decide +kernel) ⟨hr.2.2.1, by have := hr.2.2.2; show 8 + (2 + 11) + rm.locals ≤ 434; omega⟩) (zV (ci := 6) (q0 := 0) hK (zP_right hP) (zD_right hD) rfl (wMd_0 G d M)) rfl rfl hl.1 rfl (lv_room (Nat.le_of_ble_eq_true rfl)) dL_law_456 ⟨hcl, hsl⟩) hP hD hS hA (fun r M1 H locs hw2 hP hD hS => ?_)
  refine lv_istore (lv' := [(6, .int r), (5, .int v), (4, .int (nI i)), (3, .ref q), (2, .ref (d 0)), (1, .ref ad.2.2.1), (0, .ref bs)]) hx hb dL_law_459 hl (by decide) rfl (fun ls hl => ?_)
  refine lv_aload_n hx hb dL_law_461 rfl (lv_at hl 4 rfl) ?_
  refine z_calliR (va_runV (As := []) (rest := []) ⟨hx, hb, hml, hown, hts⟩ (kM_th l G H.size d M1) (cwV 0 hts gL_law_X6_thrown rfl rfl rfl (by decide +kernel) ⟨(Nat.le_of_ble_eq_true rfl), (Nat.le_of_ble_eq_true rfl)⟩) (zV (ci := 6) (q0 := 0) hK (zP_right hP) (zD_right hD) rfl (wMd_0 G d M1)) rfl rfl hl.1 rfl (lv_room (Nat.le_of_ble_eq_true rfl)) dL_law_462 ⟨hcl, hsl⟩) hP hD hS hA (fun t3 M3 H locs hw3 hP hD hS => ?_)
  obtain ⟨rfl, rfl⟩ := hw3
  obtain ⟨k1, k2, k3⟩ := key v u r _ hw hw2
  refine lv_iload hx hb dL_law_465 (lv_at hl 1 rfl) ?_
  refine lv_icmp_eq (tgt := 472) hx hb dL_law_467 (by decide) (fun c1 => ?_) (fun c1 => absurd k1 c1)
  refine lv_iload hx hb dL_law_472 (lv_at hl 1 rfl) ?_
  refine lv_if_ne (tgt := 489) hx hb dL_law_474 (by decide) (fun c2 => ?_) (fun c2 => ?_)
  · refine lv_goto (tgt := 1392) hx hb dL_law_489 (by decide) ?_
    exact kk u.1 u.2 _ _ _ _ k3 hP hD hS (lv_sub hl [2, 3, 4, 5, 6] rfl)
  · refine lv_aload_n hx hb dL_law_477 rfl (lv_at hl 3 rfl) ?_
    refine lv_iconst (v := 0) hx hb dL_law_478 (by decide) ?_
    refine z_lald hx hb hK (zP_asc hP) dL_law_479 ?_
    refine lv_iload hx hb dL_law_480 (lv_at hl 0 rfl) ?_
    refine lv_i2l hx hb dL_law_482 rfl ?_
    refine W.lcmp hx hb dL_law_483 ?_
    refine lv_if_eq (tgt := 489) hx hb dL_law_484 (by decide) (fun c3 => ?_) (fun c3 => absurd (z_cmp0 (k2 c2)) c3)
    refine lv_goto (tgt := 1392) hx hb dL_law_489 (by decide) ?_
    exact kk u.1 u.2 _ _ _ _ k3 hP hD hS (lv_sub hl [2, 3, 4, 5, 6] rfl)
set_option maxRecDepth 100000 in
theorem lc_setGlare {p : Program} {l : Launch} {e : Env} {s : State} {m : MethodId} {below : List Frame} {meth : Method} {c : Code} {bs L : Nat} {xs : Nat → Int32} {G : zG} {A : Nat → Prop} {H : Heap} {locs : List Loc} {ls : Array Slot} {cells slots : Nat} {Q : State → Prop} (C0 : lwX p s m c bs L xs G A) {i : Nat} (hi : i + 4 < L) {ad : zAd} {q : Nat} {d : Nat → Nat} {D : zDc} {M : zRd} {ov : Nat → Int64} {B : Nat}
    (h : crW l G ad q d D M ov B yL_setGlare wsL_setGlare yX6_setGlare wsX6_setGlare [.ref ad.2.2.1, .int (xs (i + 1)), .ref q] [.ref (d 0), .int (xs (i + 1))])
    (hl : lv_has ls 9 [(4, .int (nI i)), (3, .ref q), (2, .ref (d 0)), (1, .ref ad.2.2.1), (0, .ref bs)]) (hP : va_P G.1 vwCl ((wO G q ov ++ wCl G ad D) ++ wMd G d M) H) (hD : va_D A ((wO G q ov ++ wCl G ad D) ++ wMd G d M)) (hS : va_S A s.heap H locs) (hcl : cells + 1 ≤ 601024) (hsl : slots + 6 ≤ 7293034)
    (kk : ∀ (D' : zDc) (ov' : Nat → Int64) (M' : zRd) (H : Heap) (locs : List Loc) (ls : Array Slot), relA (B + 6200) D' M' → va_P G.1 vwCl ((wO G q ov' ++ wCl G ad D') ++ wMd G d M') H → va_D A ((wO G q ov' ++ wCl G ad D') ++ wMd G d M') → va_S A s.heap H locs → lv_has ls 9 [(4, .int (nI i)), (3, .ref q), (2, .ref (d 0)), (1, .ref ad.2.2.1), (0, .ref bs)] → W p l e room_1 s m #[Value.ref bs] below meth c H locs (cells + 1) (slots + 6) Q (F0 m 1392 ls [])) : W p l e room_1 s m #[Value.ref bs] below meth c H locs cells slots Q (F0 m 492 ls []) := by
  obtain ⟨hx, hb, hml, hown, hts, hX, hbl, hbA, hK, hZ, hN, hA, hL⟩ := C0
  obtain ⟨postc, postm, rm, h1, hr, h2, key⟩ := h
  refine lv_aload_n hx hb dL_law_492 rfl (lv_at hl 3 rfl) ?_
  refine lv_aload_n hx hb dL_law_493 rfl (lv_at hl 4 rfl) ?_
  refine lv_iload hx hb dL_law_494 (lv_at hl 0 rfl) ?_
  refine lv_iconst (v := 1) hx hb dL_law_496 (by decide) ?_
  refine lv_iadd hx hb dL_law_497 ?_
  refine z_top (show nI i + 1 = nI (i + 1) from nI_add i 1) ?_
  refine z_sld hx hb hX hbl hbA hS (i + 1) rfl (by omega) hL dL_law_498 ?_
  refine lv_aload_n hx hb dL_law_499 rfl (lv_at hl 1 rfl) ?_
  refine z_calliL (vx_runSW (As := [.ref ad.2.2.1, .int (xs (i + 1)), .ref q]) (rest := []) ⟨hx, hb, hml, hown, hts⟩ (h1 H.size) (vx_cwSW 3 hts gL_law_L_setGlare rfl rfl rfl (by decide +kernel) ⟨(Nat.le_of_ble_eq_true rfl), (Nat.le_of_ble_eq_true rfl)⟩) (zSe hK (zP_left hP) (zD_left hD) hS hZ hN hA) rfl rfl hl.1 rfl (lv_room (Nat.le_of_ble_eq_true rfl)) dL_law_500 ⟨hcl, hsl⟩) hP hD hS hA (fun v u H locs hw hP hD hS => ?_)
  refine lv_istore (lv' := [(5, .int v), (4, .int (nI i)), (3, .ref q), (2, .ref (d 0)), (1, .ref ad.2.2.1), (0, .ref bs)]) hx hb dL_law_503 hl (by decide) rfl (fun ls hl => ?_)
  refine lv_aload_n hx hb dL_law_505 rfl (lv_at hl 3 rfl) ?_
  refine lv_aload_n hx hb dL_law_506 rfl (lv_at hl 5 rfl) ?_
  refine lv_iload hx hb dL_law_507 (lv_at hl 1 rfl) ?_
  refine lv_iconst (v := 1) hx hb dL_law_509 (by decide) ?_
  refine lv_iadd hx hb dL_law_510 ?_
  refine z_top (show nI i + 1 = nI (i + 1) from nI_add i 1) ?_
  refine z_sld hx hb hX hbl hbA hS (i + 1) rfl (by omega) hL dL_law_511 ?_
  refine z_calliR (va_runV (As := [.int (xs (i + 1))]) (rest := []) ⟨hx, hb, hml, hown, hts⟩ (h2 H.size) (cwV 1 hts gL_law_X6_setGlare rfl hr.1 hr.2.1 (by decide +kernel) ⟨hr.2.2.1, by have := hr.2.2.2; show 8 + (3 + 11) + rm.locals ≤ 434; omega⟩) (zV (ci := 6) (q0 := 0) hK (zP_right hP) (zD_right hD) rfl (wMd_0 G d M)) rfl rfl hl.1 rfl (lv_room (Nat.le_of_ble_eq_true rfl)) dL_law_512 ⟨hcl, hsl⟩) hP hD hS hA (fun r M1 H locs hw2 hP hD hS => ?_)
  refine lv_istore (lv' := [(6, .int r), (5, .int v), (4, .int (nI i)), (3, .ref q), (2, .ref (d 0)), (1, .ref ad.2.2.1), (0, .ref bs)]) hx hb dL_law_515 hl (by decide) rfl (fun ls hl => ?_)
  refine lv_aload_n hx hb dL_law_517 rfl (lv_at hl 4 rfl) ?_
  refine z_calliR (va_runV (As := []) (rest := []) ⟨hx, hb, hml, hown, hts⟩ (kM_th l G H.size d M1) (cwV 0 hts gL_law_X6_thrown rfl rfl rfl (by decide +kernel) ⟨(Nat.le_of_ble_eq_true rfl), (Nat.le_of_ble_eq_true rfl)⟩) (zV (ci := 6) (q0 := 0) hK (zP_right hP) (zD_right hD) rfl (wMd_0 G d M1)) rfl rfl hl.1 rfl (lv_room (Nat.le_of_ble_eq_true rfl)) dL_law_518 ⟨hcl, hsl⟩) hP hD hS hA (fun t3 M3 H locs hw3 hP hD hS => ?_)
  obtain ⟨rfl, rfl⟩ := hw3
  obtain ⟨k1, k2, k3⟩ := key v u r _ hw hw2
  refine lv_iload hx hb dL_law_521 (lv_at hl 1 rfl) ?_
  refine lv_icmp_eq (tgt := 528) hx hb dL_law_523 (by decide) (fun c1 => ?_) (fun c1 => absurd k1 c1)
  refine lv_iload hx hb dL_law_528 (lv_at hl 1 rfl) ?_
  refine lv_if_ne (tgt := 545) hx hb dL_law_530 (by decide) (fun c2 => ?_) (fun c2 => ?_)
  · refine lv_goto (tgt := 1392) hx hb dL_law_545 (by decide) ?_
    exact kk u.1 u.2 _ _ _ _ k3 hP hD hS (lv_sub hl [2, 3, 4, 5, 6] rfl)
  · refine lv_aload_n hx hb dL_law_533 rfl (lv_at hl 3 rfl) ?_
    refine lv_iconst (v := 0) hx hb dL_law_534 (by decide) ?_
    refine z_lald hx hb hK (zP_asc hP) dL_law_535 ?_
    refine lv_iload hx hb dL_law_536 (lv_at hl 0 rfl) ?_
    refine lv_i2l hx hb dL_law_538 rfl ?_
    refine W.lcmp hx hb dL_law_539 ?_
    refine lv_if_eq (tgt := 545) hx hb dL_law_540 (by decide) (fun c3 => ?_) (fun c3 => absurd (z_cmp0 (k2 c2)) c3)
    refine lv_goto (tgt := 1392) hx hb dL_law_545 (by decide) ?_
    exact kk u.1 u.2 _ _ _ _ k3 hP hD hS (lv_sub hl [2, 3, 4, 5, 6] rfl)
set_option maxRecDepth 100000 in
theorem lc_setAddress {p : Program} {l : Launch} {e : Env} {s : State} {m : MethodId} {below : List Frame} {meth : Method} {c : Code} {bs L : Nat} {xs : Nat → Int32} {G : zG} {A : Nat → Prop} {H : Heap} {locs : List Loc} {ls : Array Slot} {cells slots : Nat} {Q : State → Prop} (C0 : lwX p s m c bs L xs G A) {i : Nat} (hi : i + 4 < L) {ad : zAd} {q : Nat} {d : Nat → Nat} {D : zDc} {M : zRd} {ov : Nat → Int64} {B : Nat}
    (h : crW l G ad q d D M ov B yL_setAddress wsL_setAddress yX6_setAddress wsX6_setAddress [.ref ad.2.2.1, .int (xs (i + 1)), .ref q] [.ref (d 0), .int (xs (i + 1))])
    (hl : lv_has ls 9 [(4, .int (nI i)), (3, .ref q), (2, .ref (d 0)), (1, .ref ad.2.2.1), (0, .ref bs)]) (hP : va_P G.1 vwCl ((wO G q ov ++ wCl G ad D) ++ wMd G d M) H) (hD : va_D A ((wO G q ov ++ wCl G ad D) ++ wMd G d M)) (hS : va_S A s.heap H locs) (hcl : cells + 1 ≤ 601024) (hsl : slots + 6 ≤ 7293034)
    (kk : ∀ (D' : zDc) (ov' : Nat → Int64) (M' : zRd) (H : Heap) (locs : List Loc) (ls : Array Slot), relA (B + 6200) D' M' → va_P G.1 vwCl ((wO G q ov' ++ wCl G ad D') ++ wMd G d M') H → va_D A ((wO G q ov' ++ wCl G ad D') ++ wMd G d M') → va_S A s.heap H locs → lv_has ls 9 [(4, .int (nI i)), (3, .ref q), (2, .ref (d 0)), (1, .ref ad.2.2.1), (0, .ref bs)] → W p l e room_1 s m #[Value.ref bs] below meth c H locs (cells + 1) (slots + 6) Q (F0 m 1392 ls [])) : W p l e room_1 s m #[Value.ref bs] below meth c H locs cells slots Q (F0 m 548 ls []) := by
  obtain ⟨hx, hb, hml, hown, hts, hX, hbl, hbA, hK, hZ, hN, hA, hL⟩ := C0
  obtain ⟨postc, postm, rm, h1, hr, h2, key⟩ := h
  refine lv_aload_n hx hb dL_law_548 rfl (lv_at hl 3 rfl) ?_
  refine lv_aload_n hx hb dL_law_549 rfl (lv_at hl 4 rfl) ?_
  refine lv_iload hx hb dL_law_550 (lv_at hl 0 rfl) ?_
  refine lv_iconst (v := 1) hx hb dL_law_552 (by decide) ?_
  refine lv_iadd hx hb dL_law_553 ?_
  refine z_top (show nI i + 1 = nI (i + 1) from nI_add i 1) ?_
  refine z_sld hx hb hX hbl hbA hS (i + 1) rfl (by omega) hL dL_law_554 ?_
  refine lv_aload_n hx hb dL_law_555 rfl (lv_at hl 1 rfl) ?_
  refine z_calliL (vx_runSW (As := [.ref ad.2.2.1, .int (xs (i + 1)), .ref q]) (rest := []) ⟨hx, hb, hml, hown, hts⟩ (h1 H.size) (vx_cwSW 3 hts gL_law_L_setAddress rfl rfl rfl (by decide +kernel) ⟨(Nat.le_of_ble_eq_true rfl), (Nat.le_of_ble_eq_true rfl)⟩) (zSe hK (zP_left hP) (zD_left hD) hS hZ hN hA) rfl rfl hl.1 rfl (lv_room (Nat.le_of_ble_eq_true rfl)) dL_law_556 ⟨hcl, hsl⟩) hP hD hS hA (fun v u H locs hw hP hD hS => ?_)
  refine lv_istore (lv' := [(5, .int v), (4, .int (nI i)), (3, .ref q), (2, .ref (d 0)), (1, .ref ad.2.2.1), (0, .ref bs)]) hx hb dL_law_559 hl (by decide) rfl (fun ls hl => ?_)
  refine lv_aload_n hx hb dL_law_561 rfl (lv_at hl 3 rfl) ?_
  refine lv_aload_n hx hb dL_law_562 rfl (lv_at hl 5 rfl) ?_
  refine lv_iload hx hb dL_law_563 (lv_at hl 1 rfl) ?_
  refine lv_iconst (v := 1) hx hb dL_law_565 (by decide) ?_
  refine lv_iadd hx hb dL_law_566 ?_
  refine z_top (show nI i + 1 = nI (i + 1) from nI_add i 1) ?_
  refine z_sld hx hb hX hbl hbA hS (i + 1) rfl (by omega) hL dL_law_567 ?_
  refine z_calliR (va_runV (As := [.int (xs (i + 1))]) (rest := []) ⟨hx, hb, hml, hown, hts⟩ (h2 H.size) (cwV 1 hts gL_law_X6_setAddress rfl hr.1 hr.2.1 (by decide +kernel) ⟨hr.2.2.1, by have := hr.2.2.2; show 8 + (3 + 11) + rm.locals ≤ 434; omega⟩) (zV (ci := 6) (q0 := 0) hK (zP_right hP) (zD_right hD) rfl (wMd_0 G d M)) rfl rfl hl.1 rfl (lv_room (Nat.le_of_ble_eq_true rfl)) dL_law_568 ⟨hcl, hsl⟩) hP hD hS hA (fun r M1 H locs hw2 hP hD hS => ?_)
  refine lv_istore (lv' := [(6, .int r), (5, .int v), (4, .int (nI i)), (3, .ref q), (2, .ref (d 0)), (1, .ref ad.2.2.1), (0, .ref bs)]) hx hb dL_law_571 hl (by decide) rfl (fun ls hl => ?_)
  refine lv_aload_n hx hb dL_law_573 rfl (lv_at hl 4 rfl) ?_
  refine z_calliR (va_runV (As := []) (rest := []) ⟨hx, hb, hml, hown, hts⟩ (kM_th l G H.size d M1) (cwV 0 hts gL_law_X6_thrown rfl rfl rfl (by decide +kernel) ⟨(Nat.le_of_ble_eq_true rfl), (Nat.le_of_ble_eq_true rfl)⟩) (zV (ci := 6) (q0 := 0) hK (zP_right hP) (zD_right hD) rfl (wMd_0 G d M1)) rfl rfl hl.1 rfl (lv_room (Nat.le_of_ble_eq_true rfl)) dL_law_574 ⟨hcl, hsl⟩) hP hD hS hA (fun t3 M3 H locs hw3 hP hD hS => ?_)
  obtain ⟨rfl, rfl⟩ := hw3
  obtain ⟨k1, k2, k3⟩ := key v u r _ hw hw2
  refine lv_iload hx hb dL_law_577 (lv_at hl 1 rfl) ?_
  refine lv_icmp_eq (tgt := 584) hx hb dL_law_579 (by decide) (fun c1 => ?_) (fun c1 => absurd k1 c1)
  refine lv_iload hx hb dL_law_584 (lv_at hl 1 rfl) ?_
  refine lv_if_ne (tgt := 601) hx hb dL_law_586 (by decide) (fun c2 => ?_) (fun c2 => ?_)
  · refine lv_goto (tgt := 1392) hx hb dL_law_601 (by decide) ?_
    exact kk u.1 u.2 _ _ _ _ k3 hP hD hS (lv_sub hl [2, 3, 4, 5, 6] rfl)
  · refine lv_aload_n hx hb dL_law_589 rfl (lv_at hl 3 rfl) ?_
    refine lv_iconst (v := 0) hx hb dL_law_590 (by decide) ?_
    refine z_lald hx hb hK (zP_asc hP) dL_law_591 ?_
    refine lv_iload hx hb dL_law_592 (lv_at hl 0 rfl) ?_
    refine lv_i2l hx hb dL_law_594 rfl ?_
    refine W.lcmp hx hb dL_law_595 ?_
    refine lv_if_eq (tgt := 601) hx hb dL_law_596 (by decide) (fun c3 => ?_) (fun c3 => absurd (z_cmp0 (k2 c2)) c3)
    refine lv_goto (tgt := 1392) hx hb dL_law_601 (by decide) ?_
    exact kk u.1 u.2 _ _ _ _ k3 hP hD hS (lv_sub hl [2, 3, 4, 5, 6] rfl)
set_option maxRecDepth 100000 in
theorem lc_learn {p : Program} {l : Launch} {e : Env} {s : State} {m : MethodId} {below : List Frame} {meth : Method} {c : Code} {bs L : Nat} {xs : Nat → Int32} {G : zG} {A : Nat → Prop} {H : Heap} {locs : List Loc} {ls : Array Slot} {cells slots : Nat} {Q : State → Prop} (C0 : lwX p s m c bs L xs G A) {i : Nat} (hi : i + 4 < L) {ad : zAd} {q : Nat} {d : Nat → Nat} {D : zDc} {M : zRd} {ov : Nat → Int64} {B : Nat}
    (h : crW l G ad q d D M ov B yL_learn wsL_learn yX6_learn wsX6_learn [.ref ad.2.2.1, .int (xs (i + 1)), .int (xs (i + 2)), .ref q] [.ref (d 0), .int (xs (i + 1)), .int (xs (i + 2))])
    (hl : lv_has ls 9 [(4, .int (nI i)), (3, .ref q), (2, .ref (d 0)), (1, .ref ad.2.2.1), (0, .ref bs)]) (hP : va_P G.1 vwCl ((wO G q ov ++ wCl G ad D) ++ wMd G d M) H) (hD : va_D A ((wO G q ov ++ wCl G ad D) ++ wMd G d M)) (hS : va_S A s.heap H locs) (hcl : cells + 1 ≤ 601024) (hsl : slots + 6 ≤ 7293034)
    (kk : ∀ (D' : zDc) (ov' : Nat → Int64) (M' : zRd) (H : Heap) (locs : List Loc) (ls : Array Slot), relA (B + 6200) D' M' → va_P G.1 vwCl ((wO G q ov' ++ wCl G ad D') ++ wMd G d M') H → va_D A ((wO G q ov' ++ wCl G ad D') ++ wMd G d M') → va_S A s.heap H locs → lv_has ls 9 [(4, .int (nI i)), (3, .ref q), (2, .ref (d 0)), (1, .ref ad.2.2.1), (0, .ref bs)] → W p l e room_1 s m #[Value.ref bs] below meth c H locs (cells + 1) (slots + 6) Q (F0 m 1392 ls [])) : W p l e room_1 s m #[Value.ref bs] below meth c H locs cells slots Q (F0 m 604 ls []) := by
  obtain ⟨hx, hb, hml, hown, hts, hX, hbl, hbA, hK, hZ, hN, hA, hL⟩ := C0
  obtain ⟨postc, postm, rm, h1, hr, h2, key⟩ := h
  refine lv_aload_n hx hb dL_law_604 rfl (lv_at hl 3 rfl) ?_
  refine lv_aload_n hx hb dL_law_605 rfl (lv_at hl 4 rfl) ?_
  refine lv_iload hx hb dL_law_606 (lv_at hl 0 rfl) ?_
  refine lv_iconst (v := 1) hx hb dL_law_608 (by decide) ?_
  refine lv_iadd hx hb dL_law_609 ?_
  refine z_top (show nI i + 1 = nI (i + 1) from nI_add i 1) ?_
  refine z_sld hx hb hX hbl hbA hS (i + 1) rfl (by omega) hL dL_law_610 ?_
  refine lv_aload_n hx hb dL_law_611 rfl (lv_at hl 4 rfl) ?_
  refine lv_iload hx hb dL_law_612 (lv_at hl 0 rfl) ?_
  refine lv_iconst (v := 2) hx hb dL_law_614 (by decide) ?_
  refine lv_iadd hx hb dL_law_615 ?_
  refine z_top (show nI i + 2 = nI (i + 2) from nI_add i 2) ?_
  refine z_sld hx hb hX hbl hbA hS (i + 2) rfl (by omega) hL dL_law_616 ?_
  refine lv_aload_n hx hb dL_law_617 rfl (lv_at hl 1 rfl) ?_
  refine z_calliL (vx_runSW (As := [.ref ad.2.2.1, .int (xs (i + 1)), .int (xs (i + 2)), .ref q]) (rest := []) ⟨hx, hb, hml, hown, hts⟩ (h1 H.size) (vx_cwSW 4 hts gL_law_L_learn rfl rfl rfl (by decide +kernel) ⟨(Nat.le_of_ble_eq_true rfl), (Nat.le_of_ble_eq_true rfl)⟩) (zSe hK (zP_left hP) (zD_left hD) hS hZ hN hA) rfl rfl hl.1 rfl (lv_room (Nat.le_of_ble_eq_true rfl)) dL_law_618 ⟨hcl, hsl⟩) hP hD hS hA (fun v u H locs hw hP hD hS => ?_)
  refine lv_istore (lv' := [(5, .int v), (4, .int (nI i)), (3, .ref q), (2, .ref (d 0)), (1, .ref ad.2.2.1), (0, .ref bs)]) hx hb dL_law_621 hl (by decide) rfl (fun ls hl => ?_)
  refine lv_aload_n hx hb dL_law_623 rfl (lv_at hl 3 rfl) ?_
  refine lv_aload_n hx hb dL_law_624 rfl (lv_at hl 5 rfl) ?_
  refine lv_iload hx hb dL_law_625 (lv_at hl 1 rfl) ?_
  refine lv_iconst (v := 1) hx hb dL_law_627 (by decide) ?_
  refine lv_iadd hx hb dL_law_628 ?_
  refine z_top (show nI i + 1 = nI (i + 1) from nI_add i 1) ?_
  refine z_sld hx hb hX hbl hbA hS (i + 1) rfl (by omega) hL dL_law_629 ?_
  refine lv_aload_n hx hb dL_law_630 rfl (lv_at hl 5 rfl) ?_
  refine lv_iload hx hb dL_law_631 (lv_at hl 1 rfl) ?_
  refine lv_iconst (v := 2) hx hb dL_law_633 (by decide) ?_
  refine lv_iadd hx hb dL_law_634 ?_
  refine z_top (show nI i + 2 = nI (i + 2) from nI_add i 2) ?_
  refine z_sld hx hb hX hbl hbA hS (i + 2) rfl (by omega) hL dL_law_635 ?_
  refine z_calliR (va_runV (As := [.int (xs (i + 1)), .int (xs (i + 2))]) (rest := []) ⟨hx, hb, hml, hown, hts⟩ (h2 H.size) (cwV 2 hts gL_law_X6_learn rfl hr.1 hr.2.1 (by decide +kernel) ⟨hr.2.2.1, by have := hr.2.2.2; show 8 + (4 + 11) + rm.locals ≤ 434; omega⟩) (zV (ci := 6) (q0 := 0) hK (zP_right hP) (zD_right hD) rfl (wMd_0 G d M)) rfl rfl hl.1 rfl (lv_room (Nat.le_of_ble_eq_true rfl)) dL_law_636 ⟨hcl, hsl⟩) hP hD hS hA (fun r M1 H locs hw2 hP hD hS => ?_)
  refine lv_istore (lv' := [(6, .int r), (5, .int v), (4, .int (nI i)), (3, .ref q), (2, .ref (d 0)), (1, .ref ad.2.2.1), (0, .ref bs)]) hx hb dL_law_639 hl (by decide) rfl (fun ls hl => ?_)
  refine lv_aload_n hx hb dL_law_641 rfl (lv_at hl 4 rfl) ?_
  refine z_calliR (va_runV (As := []) (rest := []) ⟨hx, hb, hml, hown, hts⟩ (kM_th l G H.size d M1) (cwV 0 hts gL_law_X6_thrown rfl rfl rfl (by decide +kernel) ⟨(Nat.le_of_ble_eq_true rfl), (Nat.le_of_ble_eq_true rfl)⟩) (zV (ci := 6) (q0 := 0) hK (zP_right hP) (zD_right hD) rfl (wMd_0 G d M1)) rfl rfl hl.1 rfl (lv_room (Nat.le_of_ble_eq_true rfl)) dL_law_642 ⟨hcl, hsl⟩) hP hD hS hA (fun t3 M3 H locs hw3 hP hD hS => ?_)
  obtain ⟨rfl, rfl⟩ := hw3
  obtain ⟨k1, k2, k3⟩ := key v u r _ hw hw2
  refine lv_iload hx hb dL_law_645 (lv_at hl 1 rfl) ?_
  refine lv_icmp_eq (tgt := 652) hx hb dL_law_647 (by decide) (fun c1 => ?_) (fun c1 => absurd k1 c1)
  refine lv_iload hx hb dL_law_652 (lv_at hl 1 rfl) ?_
  refine lv_if_ne (tgt := 669) hx hb dL_law_654 (by decide) (fun c2 => ?_) (fun c2 => ?_)
  · refine lv_goto (tgt := 1392) hx hb dL_law_669 (by decide) ?_
    exact kk u.1 u.2 _ _ _ _ k3 hP hD hS (lv_sub hl [2, 3, 4, 5, 6] rfl)
  · refine lv_aload_n hx hb dL_law_657 rfl (lv_at hl 3 rfl) ?_
    refine lv_iconst (v := 0) hx hb dL_law_658 (by decide) ?_
    refine z_lald hx hb hK (zP_asc hP) dL_law_659 ?_
    refine lv_iload hx hb dL_law_660 (lv_at hl 0 rfl) ?_
    refine lv_i2l hx hb dL_law_662 rfl ?_
    refine W.lcmp hx hb dL_law_663 ?_
    refine lv_if_eq (tgt := 669) hx hb dL_law_664 (by decide) (fun c3 => ?_) (fun c3 => absurd (z_cmp0 (k2 c2)) c3)
    refine lv_goto (tgt := 1392) hx hb dL_law_669 (by decide) ?_
    exact kk u.1 u.2 _ _ _ _ k3 hP hD hS (lv_sub hl [2, 3, 4, 5, 6] rfl)
set_option maxRecDepth 100000 in
theorem lc_action {p : Program} {l : Launch} {e : Env} {s : State} {m : MethodId} {below : List Frame} {meth : Method} {c : Code} {bs L : Nat} {xs : Nat → Int32} {G : zG} {A : Nat → Prop} {H : Heap} {locs : List Loc} {ls : Array Slot} {cells slots : Nat} {Q : State → Prop} (C0 : lwX p s m c bs L xs G A) {i : Nat} (hi : i + 4 < L) {ad : zAd} {q : Nat} {d : Nat → Nat} {D : zDc} {M : zRd} {ov : Nat → Int64} {B : Nat}
    (h : crW l G ad q d D M ov B yL_action wsL_action yX6_action wsX6_action [.ref ad.2.2.1, .int (xs (i + 1)), .ref q] [.ref (d 0), .int (xs (i + 1))])
    (hl : lv_has ls 9 [(4, .int (nI i)), (3, .ref q), (2, .ref (d 0)), (1, .ref ad.2.2.1), (0, .ref bs)]) (hP : va_P G.1 vwCl ((wO G q ov ++ wCl G ad D) ++ wMd G d M) H) (hD : va_D A ((wO G q ov ++ wCl G ad D) ++ wMd G d M)) (hS : va_S A s.heap H locs) (hcl : cells + 1 ≤ 601024) (hsl : slots + 6 ≤ 7293034)
    (kk : ∀ (D' : zDc) (ov' : Nat → Int64) (M' : zRd) (H : Heap) (locs : List Loc) (ls : Array Slot), relA (B + 6200) D' M' → va_P G.1 vwCl ((wO G q ov' ++ wCl G ad D') ++ wMd G d M') H → va_D A ((wO G q ov' ++ wCl G ad D') ++ wMd G d M') → va_S A s.heap H locs → lv_has ls 9 [(4, .int (nI i)), (3, .ref q), (2, .ref (d 0)), (1, .ref ad.2.2.1), (0, .ref bs)] → W p l e room_1 s m #[Value.ref bs] below meth c H locs (cells + 1) (slots + 6) Q (F0 m 1392 ls [])) : W p l e room_1 s m #[Value.ref bs] below meth c H locs cells slots Q (F0 m 698 ls []) := by
  obtain ⟨hx, hb, hml, hown, hts, hX, hbl, hbA, hK, hZ, hN, hA, hL⟩ := C0
  obtain ⟨postc, postm, rm, h1, hr, h2, key⟩ := h
  refine lv_aload_n hx hb dL_law_698 rfl (lv_at hl 3 rfl) ?_
  refine lv_aload_n hx hb dL_law_699 rfl (lv_at hl 4 rfl) ?_
  refine lv_iload hx hb dL_law_700 (lv_at hl 0 rfl) ?_
  refine lv_iconst (v := 1) hx hb dL_law_702 (by decide) ?_
  refine lv_iadd hx hb dL_law_703 ?_
  refine z_top (show nI i + 1 = nI (i + 1) from nI_add i 1) ?_
  refine z_sld hx hb hX hbl hbA hS (i + 1) rfl (by omega) hL dL_law_704 ?_
  refine lv_aload_n hx hb dL_law_705 rfl (lv_at hl 1 rfl) ?_
  refine z_calliL (vx_runSW (As := [.ref ad.2.2.1, .int (xs (i + 1)), .ref q]) (rest := []) ⟨hx, hb, hml, hown, hts⟩ (h1 H.size) (vx_cwSW 3 hts gL_law_L_action rfl rfl rfl (by decide +kernel) ⟨(Nat.le_of_ble_eq_true rfl), (Nat.le_of_ble_eq_true rfl)⟩) (zSe hK (zP_left hP) (zD_left hD) hS hZ hN hA) rfl rfl hl.1 rfl (lv_room (Nat.le_of_ble_eq_true rfl)) dL_law_706 ⟨hcl, hsl⟩) hP hD hS hA (fun v u H locs hw hP hD hS => ?_)
  refine lv_istore (lv' := [(5, .int v), (4, .int (nI i)), (3, .ref q), (2, .ref (d 0)), (1, .ref ad.2.2.1), (0, .ref bs)]) hx hb dL_law_709 hl (by decide) rfl (fun ls hl => ?_)
  refine lv_aload_n hx hb dL_law_711 rfl (lv_at hl 3 rfl) ?_
  refine lv_aload_n hx hb dL_law_712 rfl (lv_at hl 5 rfl) ?_
  refine lv_iload hx hb dL_law_713 (lv_at hl 1 rfl) ?_
  refine lv_iconst (v := 1) hx hb dL_law_715 (by decide) ?_
  refine lv_iadd hx hb dL_law_716 ?_
  refine z_top (show nI i + 1 = nI (i + 1) from nI_add i 1) ?_
  refine z_sld hx hb hX hbl hbA hS (i + 1) rfl (by omega) hL dL_law_717 ?_
  refine z_calliR (va_runV (As := [.int (xs (i + 1))]) (rest := []) ⟨hx, hb, hml, hown, hts⟩ (h2 H.size) (cwV 1 hts gL_law_X6_action rfl hr.1 hr.2.1 (by decide +kernel) ⟨hr.2.2.1, by have := hr.2.2.2; show 8 + (2 + 11) + rm.locals ≤ 434; omega⟩) (zV (ci := 6) (q0 := 0) hK (zP_right hP) (zD_right hD) rfl (wMd_0 G d M)) rfl rfl hl.1 rfl (lv_room (Nat.le_of_ble_eq_true rfl)) dL_law_718 ⟨hcl, hsl⟩) hP hD hS hA (fun r M1 H locs hw2 hP hD hS => ?_)
  refine lv_istore (lv' := [(6, .int r), (5, .int v), (4, .int (nI i)), (3, .ref q), (2, .ref (d 0)), (1, .ref ad.2.2.1), (0, .ref bs)]) hx hb dL_law_721 hl (by decide) rfl (fun ls hl => ?_)
  refine lv_aload_n hx hb dL_law_723 rfl (lv_at hl 4 rfl) ?_
  refine z_calliR (va_runV (As := []) (rest := []) ⟨hx, hb, hml, hown, hts⟩ (kM_th l G H.size d M1) (cwV 0 hts gL_law_X6_thrown rfl rfl rfl (by decide +kernel) ⟨(Nat.le_of_ble_eq_true rfl), (Nat.le_of_ble_eq_true rfl)⟩) (zV (ci := 6) (q0 := 0) hK (zP_right hP) (zD_right hD) rfl (wMd_0 G d M1)) rfl rfl hl.1 rfl (lv_room (Nat.le_of_ble_eq_true rfl)) dL_law_724 ⟨hcl, hsl⟩) hP hD hS hA (fun t3 M3 H locs hw3 hP hD hS => ?_)
  obtain ⟨rfl, rfl⟩ := hw3
  obtain ⟨k1, k2, k3⟩ := key v u r _ hw hw2
  refine lv_iload hx hb dL_law_727 (lv_at hl 1 rfl) ?_
  refine lv_icmp_eq (tgt := 734) hx hb dL_law_729 (by decide) (fun c1 => ?_) (fun c1 => absurd k1 c1)
  refine lv_iload hx hb dL_law_734 (lv_at hl 1 rfl) ?_
  refine lv_if_ne (tgt := 751) hx hb dL_law_736 (by decide) (fun c2 => ?_) (fun c2 => ?_)
  · refine lv_goto (tgt := 1392) hx hb dL_law_751 (by decide) ?_
    exact kk u.1 u.2 _ _ _ _ k3 hP hD hS (lv_sub hl [2, 3, 4, 5, 6] rfl)
  · refine lv_aload_n hx hb dL_law_739 rfl (lv_at hl 3 rfl) ?_
    refine lv_iconst (v := 0) hx hb dL_law_740 (by decide) ?_
    refine z_lald hx hb hK (zP_asc hP) dL_law_741 ?_
    refine lv_iload hx hb dL_law_742 (lv_at hl 0 rfl) ?_
    refine lv_i2l hx hb dL_law_744 rfl ?_
    refine W.lcmp hx hb dL_law_745 ?_
    refine lv_if_eq (tgt := 751) hx hb dL_law_746 (by decide) (fun c3 => ?_) (fun c3 => absurd (z_cmp0 (k2 c2)) c3)
    refine lv_goto (tgt := 1392) hx hb dL_law_751 (by decide) ?_
    exact kk u.1 u.2 _ _ _ _ k3 hP hD hS (lv_sub hl [2, 3, 4, 5, 6] rfl)
set_option maxRecDepth 100000 in
theorem lc_done {p : Program} {l : Launch} {e : Env} {s : State} {m : MethodId} {below : List Frame} {meth : Method} {c : Code} {bs L : Nat} {xs : Nat → Int32} {G : zG} {A : Nat → Prop} {H : Heap} {locs : List Loc} {ls : Array Slot} {cells slots : Nat} {Q : State → Prop} (C0 : lwX p s m c bs L xs G A) {i : Nat} (hi : i + 4 < L) {ad : zAd} {q : Nat} {d : Nat → Nat} {D : zDc} {M : zRd} {ov : Nat → Int64} {B : Nat}
    (h : crW l G ad q d D M ov B yL_done wsL_done yX6_done wsX6_done [.ref ad.2.2.1, .int (xs (i + 1)), .ref q] [.ref (d 0), .int (xs (i + 1))])
    (hl : lv_has ls 9 [(4, .int (nI i)), (3, .ref q), (2, .ref (d 0)), (1, .ref ad.2.2.1), (0, .ref bs)]) (hP : va_P G.1 vwCl ((wO G q ov ++ wCl G ad D) ++ wMd G d M) H) (hD : va_D A ((wO G q ov ++ wCl G ad D) ++ wMd G d M)) (hS : va_S A s.heap H locs) (hcl : cells + 1 ≤ 601024) (hsl : slots + 6 ≤ 7293034)
    (kk : ∀ (D' : zDc) (ov' : Nat → Int64) (M' : zRd) (H : Heap) (locs : List Loc) (ls : Array Slot), relA (B + 6200) D' M' → va_P G.1 vwCl ((wO G q ov' ++ wCl G ad D') ++ wMd G d M') H → va_D A ((wO G q ov' ++ wCl G ad D') ++ wMd G d M') → va_S A s.heap H locs → lv_has ls 9 [(4, .int (nI i)), (3, .ref q), (2, .ref (d 0)), (1, .ref ad.2.2.1), (0, .ref bs)] → W p l e room_1 s m #[Value.ref bs] below meth c H locs (cells + 1) (slots + 6) Q (F0 m 1392 ls [])) : W p l e room_1 s m #[Value.ref bs] below meth c H locs cells slots Q (F0 m 754 ls []) := by
  obtain ⟨hx, hb, hml, hown, hts, hX, hbl, hbA, hK, hZ, hN, hA, hL⟩ := C0
  obtain ⟨postc, postm, rm, h1, hr, h2, key⟩ := h
  refine lv_aload_n hx hb dL_law_754 rfl (lv_at hl 3 rfl) ?_
  refine lv_aload_n hx hb dL_law_755 rfl (lv_at hl 4 rfl) ?_
  refine lv_iload hx hb dL_law_756 (lv_at hl 0 rfl) ?_
  refine lv_iconst (v := 1) hx hb dL_law_758 (by decide) ?_
  refine lv_iadd hx hb dL_law_759 ?_
  refine z_top (show nI i + 1 = nI (i + 1) from nI_add i 1) ?_
  refine z_sld hx hb hX hbl hbA hS (i + 1) rfl (by omega) hL dL_law_760 ?_
  refine lv_aload_n hx hb dL_law_761 rfl (lv_at hl 1 rfl) ?_
  refine z_calliL (vx_runSW (As := [.ref ad.2.2.1, .int (xs (i + 1)), .ref q]) (rest := []) ⟨hx, hb, hml, hown, hts⟩ (h1 H.size) (vx_cwSW 3 hts gL_law_L_done rfl rfl rfl (by decide +kernel) ⟨(Nat.le_of_ble_eq_true rfl), (Nat.le_of_ble_eq_true rfl)⟩) (zSe hK (zP_left hP) (zD_left hD) hS hZ hN hA) rfl rfl hl.1 rfl (lv_room (Nat.le_of_ble_eq_true rfl)) dL_law_762 ⟨hcl, hsl⟩) hP hD hS hA (fun v u H locs hw hP hD hS => ?_)
  refine lv_istore (lv' := [(5, .int v), (4, .int (nI i)), (3, .ref q), (2, .ref (d 0)), (1, .ref ad.2.2.1), (0, .ref bs)]) hx hb dL_law_765 hl (by decide) rfl (fun ls hl => ?_)
  refine lv_aload_n hx hb dL_law_767 rfl (lv_at hl 3 rfl) ?_
  refine lv_aload_n hx hb dL_law_768 rfl (lv_at hl 5 rfl) ?_
  refine lv_iload hx hb dL_law_769 (lv_at hl 1 rfl) ?_
  refine lv_iconst (v := 1) hx hb dL_law_771 (by decide) ?_
  refine lv_iadd hx hb dL_law_772 ?_
  refine z_top (show nI i + 1 = nI (i + 1) from nI_add i 1) ?_
  refine z_sld hx hb hX hbl hbA hS (i + 1) rfl (by omega) hL dL_law_773 ?_
  refine z_calliR (va_runV (As := [.int (xs (i + 1))]) (rest := []) ⟨hx, hb, hml, hown, hts⟩ (h2 H.size) (cwV 1 hts gL_law_X6_done rfl hr.1 hr.2.1 (by decide +kernel) ⟨hr.2.2.1, by have := hr.2.2.2; show 8 + (2 + 11) + rm.locals ≤ 434; omega⟩) (zV (ci := 6) (q0 := 0) hK (zP_right hP) (zD_right hD) rfl (wMd_0 G d M)) rfl rfl hl.1 rfl (lv_room (Nat.le_of_ble_eq_true rfl)) dL_law_774 ⟨hcl, hsl⟩) hP hD hS hA (fun r M1 H locs hw2 hP hD hS => ?_)
  refine lv_istore (lv' := [(6, .int r), (5, .int v), (4, .int (nI i)), (3, .ref q), (2, .ref (d 0)), (1, .ref ad.2.2.1), (0, .ref bs)]) hx hb dL_law_777 hl (by decide) rfl (fun ls hl => ?_)
  refine lv_aload_n hx hb dL_law_779 rfl (lv_at hl 4 rfl) ?_
  refine z_calliR (va_runV (As := []) (rest := []) ⟨hx, hb, hml, hown, hts⟩ (kM_th l G H.size d M1) (cwV 0 hts gL_law_X6_thrown rfl rfl rfl (by decide +kernel) ⟨(Nat.le_of_ble_eq_true rfl), (Nat.le_of_ble_eq_true rfl)⟩) (zV (ci := 6) (q0 := 0) hK (zP_right hP) (zD_right hD) rfl (wMd_0 G d M1)) rfl rfl hl.1 rfl (lv_room (Nat.le_of_ble_eq_true rfl)) dL_law_780 ⟨hcl, hsl⟩) hP hD hS hA (fun t3 M3 H locs hw3 hP hD hS => ?_)
  obtain ⟨rfl, rfl⟩ := hw3
  obtain ⟨k1, k2, k3⟩ := key v u r _ hw hw2
  refine lv_iload hx hb dL_law_783 (lv_at hl 1 rfl) ?_
  refine lv_icmp_eq (tgt := 790) hx hb dL_law_785 (by decide) (fun c1 => ?_) (fun c1 => absurd k1 c1)
  refine lv_iload hx hb dL_law_790 (lv_at hl 1 rfl) ?_
  refine lv_if_ne (tgt := 807) hx hb dL_law_792 (by decide) (fun c2 => ?_) (fun c2 => ?_)
  · refine lv_goto (tgt := 1392) hx hb dL_law_807 (by decide) ?_
    exact kk u.1 u.2 _ _ _ _ k3 hP hD hS (lv_sub hl [2, 3, 4, 5, 6] rfl)
  · refine lv_aload_n hx hb dL_law_795 rfl (lv_at hl 3 rfl) ?_
    refine lv_iconst (v := 0) hx hb dL_law_796 (by decide) ?_
    refine z_lald hx hb hK (zP_asc hP) dL_law_797 ?_
    refine lv_iload hx hb dL_law_798 (lv_at hl 0 rfl) ?_
    refine lv_i2l hx hb dL_law_800 rfl ?_
    refine W.lcmp hx hb dL_law_801 ?_
    refine lv_if_eq (tgt := 807) hx hb dL_law_802 (by decide) (fun c3 => ?_) (fun c3 => absurd (z_cmp0 (k2 c2)) c3)
    refine lv_goto (tgt := 1392) hx hb dL_law_807 (by decide) ?_
    exact kk u.1 u.2 _ _ _ _ k3 hP hD hS (lv_sub hl [2, 3, 4, 5, 6] rfl)
set_option maxRecDepth 100000 in
theorem lc_refused {p : Program} {l : Launch} {e : Env} {s : State} {m : MethodId} {below : List Frame} {meth : Method} {c : Code} {bs L : Nat} {xs : Nat → Int32} {G : zG} {A : Nat → Prop} {H : Heap} {locs : List Loc} {ls : Array Slot} {cells slots : Nat} {Q : State → Prop} (C0 : lwX p s m c bs L xs G A) {i : Nat} (hi : i + 4 < L) {ad : zAd} {q : Nat} {d : Nat → Nat} {D : zDc} {M : zRd} {ov : Nat → Int64} {B : Nat}
    (h : crW l G ad q d D M ov B yL_refused wsL_refused yX6_refused wsX6_refused [.ref ad.2.2.1, .int (xs (i + 1)), .ref q] [.ref (d 0), .int (xs (i + 1))])
    (hl : lv_has ls 9 [(4, .int (nI i)), (3, .ref q), (2, .ref (d 0)), (1, .ref ad.2.2.1), (0, .ref bs)]) (hP : va_P G.1 vwCl ((wO G q ov ++ wCl G ad D) ++ wMd G d M) H) (hD : va_D A ((wO G q ov ++ wCl G ad D) ++ wMd G d M)) (hS : va_S A s.heap H locs) (hcl : cells + 1 ≤ 601024) (hsl : slots + 6 ≤ 7293034)
    (kk : ∀ (D' : zDc) (ov' : Nat → Int64) (M' : zRd) (H : Heap) (locs : List Loc) (ls : Array Slot), relA (B + 6200) D' M' → va_P G.1 vwCl ((wO G q ov' ++ wCl G ad D') ++ wMd G d M') H → va_D A ((wO G q ov' ++ wCl G ad D') ++ wMd G d M') → va_S A s.heap H locs → lv_has ls 9 [(4, .int (nI i)), (3, .ref q), (2, .ref (d 0)), (1, .ref ad.2.2.1), (0, .ref bs)] → W p l e room_1 s m #[Value.ref bs] below meth c H locs (cells + 1) (slots + 6) Q (F0 m 1392 ls [])) : W p l e room_1 s m #[Value.ref bs] below meth c H locs cells slots Q (F0 m 849 ls []) := by
  obtain ⟨hx, hb, hml, hown, hts, hX, hbl, hbA, hK, hZ, hN, hA, hL⟩ := C0
  obtain ⟨postc, postm, rm, h1, hr, h2, key⟩ := h
  refine lv_aload_n hx hb dL_law_849 rfl (lv_at hl 3 rfl) ?_
  refine lv_aload_n hx hb dL_law_850 rfl (lv_at hl 4 rfl) ?_
  refine lv_iload hx hb dL_law_851 (lv_at hl 0 rfl) ?_
  refine lv_iconst (v := 1) hx hb dL_law_853 (by decide) ?_
  refine lv_iadd hx hb dL_law_854 ?_
  refine z_top (show nI i + 1 = nI (i + 1) from nI_add i 1) ?_
  refine z_sld hx hb hX hbl hbA hS (i + 1) rfl (by omega) hL dL_law_855 ?_
  refine lv_aload_n hx hb dL_law_856 rfl (lv_at hl 1 rfl) ?_
  refine z_calliL (vx_runSW (As := [.ref ad.2.2.1, .int (xs (i + 1)), .ref q]) (rest := []) ⟨hx, hb, hml, hown, hts⟩ (h1 H.size) (vx_cwSW 3 hts gL_law_L_refused rfl rfl rfl (by decide +kernel) ⟨(Nat.le_of_ble_eq_true rfl), (Nat.le_of_ble_eq_true rfl)⟩) (zSe hK (zP_left hP) (zD_left hD) hS hZ hN hA) rfl rfl hl.1 rfl (lv_room (Nat.le_of_ble_eq_true rfl)) dL_law_857 ⟨hcl, hsl⟩) hP hD hS hA (fun v u H locs hw hP hD hS => ?_)
  refine lv_istore (lv' := [(5, .int v), (4, .int (nI i)), (3, .ref q), (2, .ref (d 0)), (1, .ref ad.2.2.1), (0, .ref bs)]) hx hb dL_law_860 hl (by decide) rfl (fun ls hl => ?_)
  refine lv_aload_n hx hb dL_law_862 rfl (lv_at hl 3 rfl) ?_
  refine lv_aload_n hx hb dL_law_863 rfl (lv_at hl 5 rfl) ?_
  refine lv_iload hx hb dL_law_864 (lv_at hl 1 rfl) ?_
  refine lv_iconst (v := 1) hx hb dL_law_866 (by decide) ?_
  refine lv_iadd hx hb dL_law_867 ?_
  refine z_top (show nI i + 1 = nI (i + 1) from nI_add i 1) ?_
  refine z_sld hx hb hX hbl hbA hS (i + 1) rfl (by omega) hL dL_law_868 ?_
  refine z_calliR (va_runV (As := [.int (xs (i + 1))]) (rest := []) ⟨hx, hb, hml, hown, hts⟩ (h2 H.size) (cwV 1 hts gL_law_X6_refused rfl hr.1 hr.2.1 (by decide +kernel) ⟨hr.2.2.1, by have := hr.2.2.2; show 8 + (2 + 11) + rm.locals ≤ 434; omega⟩) (zV (ci := 6) (q0 := 0) hK (zP_right hP) (zD_right hD) rfl (wMd_0 G d M)) rfl rfl hl.1 rfl (lv_room (Nat.le_of_ble_eq_true rfl)) dL_law_869 ⟨hcl, hsl⟩) hP hD hS hA (fun r M1 H locs hw2 hP hD hS => ?_)
  refine lv_istore (lv' := [(6, .int r), (5, .int v), (4, .int (nI i)), (3, .ref q), (2, .ref (d 0)), (1, .ref ad.2.2.1), (0, .ref bs)]) hx hb dL_law_872 hl (by decide) rfl (fun ls hl => ?_)
  refine lv_aload_n hx hb dL_law_874 rfl (lv_at hl 4 rfl) ?_
  refine z_calliR (va_runV (As := []) (rest := []) ⟨hx, hb, hml, hown, hts⟩ (kM_th l G H.size d M1) (cwV 0 hts gL_law_X6_thrown rfl rfl rfl (by decide +kernel) ⟨(Nat.le_of_ble_eq_true rfl), (Nat.le_of_ble_eq_true rfl)⟩) (zV (ci := 6) (q0 := 0) hK (zP_right hP) (zD_right hD) rfl (wMd_0 G d M1)) rfl rfl hl.1 rfl (lv_room (Nat.le_of_ble_eq_true rfl)) dL_law_875 ⟨hcl, hsl⟩) hP hD hS hA (fun t3 M3 H locs hw3 hP hD hS => ?_)
  obtain ⟨rfl, rfl⟩ := hw3
  obtain ⟨k1, k2, k3⟩ := key v u r _ hw hw2
  refine lv_iload hx hb dL_law_878 (lv_at hl 1 rfl) ?_
  refine lv_icmp_eq (tgt := 885) hx hb dL_law_880 (by decide) (fun c1 => ?_) (fun c1 => absurd k1 c1)
  refine lv_iload hx hb dL_law_885 (lv_at hl 1 rfl) ?_
  refine lv_if_ne (tgt := 902) hx hb dL_law_887 (by decide) (fun c2 => ?_) (fun c2 => ?_)
  · refine lv_goto (tgt := 1392) hx hb dL_law_902 (by decide) ?_
    exact kk u.1 u.2 _ _ _ _ k3 hP hD hS (lv_sub hl [2, 3, 4, 5, 6] rfl)
  · refine lv_aload_n hx hb dL_law_890 rfl (lv_at hl 3 rfl) ?_
    refine lv_iconst (v := 0) hx hb dL_law_891 (by decide) ?_
    refine z_lald hx hb hK (zP_asc hP) dL_law_892 ?_
    refine lv_iload hx hb dL_law_893 (lv_at hl 0 rfl) ?_
    refine lv_i2l hx hb dL_law_895 rfl ?_
    refine W.lcmp hx hb dL_law_896 ?_
    refine lv_if_eq (tgt := 902) hx hb dL_law_897 (by decide) (fun c3 => ?_) (fun c3 => absurd (z_cmp0 (k2 c2)) c3)
    refine lv_goto (tgt := 1392) hx hb dL_law_902 (by decide) ?_
    exact kk u.1 u.2 _ _ _ _ k3 hP hD hS (lv_sub hl [2, 3, 4, 5, 6] rfl)
set_option maxRecDepth 100000 in
theorem lc_bit {p : Program} {l : Launch} {e : Env} {s : State} {m : MethodId} {below : List Frame} {meth : Method} {c : Code} {bs L : Nat} {xs : Nat → Int32} {G : zG} {A : Nat → Prop} {H : Heap} {locs : List Loc} {ls : Array Slot} {cells slots : Nat} {Q : State → Prop} (C0 : lwX p s m c bs L xs G A) {i : Nat} (hi : i + 4 < L) {ad : zAd} {q : Nat} {d : Nat → Nat} {D : zDc} {M : zRd} {ov : Nat → Int64} {B : Nat}
    (h : crW l G ad q d D M ov B yL_bit wsL_bit yX6_bit wsX6_bit [.ref ad.2.2.1, .int (xs (i + 1)), .int (xs (i + 2)), .int (xs (i + 3)), .int (xs (i + 4)), .ref q] [.ref (d 0), .int (xs (i + 1)), .int (xs (i + 2)), .int (xs (i + 3)), .int (xs (i + 4))])
    (hl : lv_has ls 9 [(4, .int (nI i)), (3, .ref q), (2, .ref (d 0)), (1, .ref ad.2.2.1), (0, .ref bs)]) (hP : va_P G.1 vwCl ((wO G q ov ++ wCl G ad D) ++ wMd G d M) H) (hD : va_D A ((wO G q ov ++ wCl G ad D) ++ wMd G d M)) (hS : va_S A s.heap H locs) (hcl : cells + 1 ≤ 601024) (hsl : slots + 6 ≤ 7293034)
    (kk : ∀ (D' : zDc) (ov' : Nat → Int64) (M' : zRd) (H : Heap) (locs : List Loc) (ls : Array Slot), relA (B + 6200) D' M' → va_P G.1 vwCl ((wO G q ov' ++ wCl G ad D') ++ wMd G d M') H → va_D A ((wO G q ov' ++ wCl G ad D') ++ wMd G d M') → va_S A s.heap H locs → lv_has ls 9 [(4, .int (nI i)), (3, .ref q), (2, .ref (d 0)), (1, .ref ad.2.2.1), (0, .ref bs)] → W p l e room_1 s m #[Value.ref bs] below meth c H locs (cells + 1) (slots + 6) Q (F0 m 1392 ls [])) : W p l e room_1 s m #[Value.ref bs] below meth c H locs cells slots Q (F0 m 972 ls []) := by
  obtain ⟨hx, hb, hml, hown, hts, hX, hbl, hbA, hK, hZ, hN, hA, hL⟩ := C0
  obtain ⟨postc, postm, rm, h1, hr, h2, key⟩ := h
  refine lv_aload_n hx hb dL_law_972 rfl (lv_at hl 3 rfl) ?_
  refine lv_aload_n hx hb dL_law_973 rfl (lv_at hl 4 rfl) ?_
  refine lv_iload hx hb dL_law_974 (lv_at hl 0 rfl) ?_
  refine lv_iconst (v := 1) hx hb dL_law_976 (by decide) ?_
  refine lv_iadd hx hb dL_law_977 ?_
  refine z_top (show nI i + 1 = nI (i + 1) from nI_add i 1) ?_
  refine z_sld hx hb hX hbl hbA hS (i + 1) rfl (by omega) hL dL_law_978 ?_
  refine lv_aload_n hx hb dL_law_979 rfl (lv_at hl 4 rfl) ?_
  refine lv_iload hx hb dL_law_980 (lv_at hl 0 rfl) ?_
  refine lv_iconst (v := 2) hx hb dL_law_982 (by decide) ?_
  refine lv_iadd hx hb dL_law_983 ?_
  refine z_top (show nI i + 2 = nI (i + 2) from nI_add i 2) ?_
  refine z_sld hx hb hX hbl hbA hS (i + 2) rfl (by omega) hL dL_law_984 ?_
  refine lv_aload_n hx hb dL_law_985 rfl (lv_at hl 4 rfl) ?_
  refine lv_iload hx hb dL_law_986 (lv_at hl 0 rfl) ?_
  refine lv_iconst (v := 3) hx hb dL_law_988 (by decide) ?_
  refine lv_iadd hx hb dL_law_989 ?_
  refine z_top (show nI i + 3 = nI (i + 3) from nI_add i 3) ?_
  refine z_sld hx hb hX hbl hbA hS (i + 3) rfl (by omega) hL dL_law_990 ?_
  refine lv_aload_n hx hb dL_law_991 rfl (lv_at hl 4 rfl) ?_
  refine lv_iload hx hb dL_law_992 (lv_at hl 0 rfl) ?_
  refine lv_iconst (v := 4) hx hb dL_law_994 (by decide) ?_
  refine lv_iadd hx hb dL_law_995 ?_
  refine z_top (show nI i + 4 = nI (i + 4) from nI_add i 4) ?_
  refine z_sld hx hb hX hbl hbA hS (i + 4) rfl (by omega) hL dL_law_996 ?_
  refine lv_aload_n hx hb dL_law_997 rfl (lv_at hl 1 rfl) ?_
  refine z_calliL (vx_runSW (As := [.ref ad.2.2.1, .int (xs (i + 1)), .int (xs (i + 2)), .int (xs (i + 3)), .int (xs (i + 4)), .ref q]) (rest := []) ⟨hx, hb, hml, hown, hts⟩ (h1 H.size) (vx_cwSW 6 hts gL_law_L_bit rfl rfl rfl (by decide +kernel) ⟨(Nat.le_of_ble_eq_true rfl), (Nat.le_of_ble_eq_true rfl)⟩) (zSe hK (zP_left hP) (zD_left hD) hS hZ hN hA) rfl rfl hl.1 rfl (lv_room (Nat.le_of_ble_eq_true rfl)) dL_law_998 ⟨hcl, hsl⟩) hP hD hS hA (fun v u H locs hw hP hD hS => ?_)
  refine lv_istore (lv' := [(5, .int v), (4, .int (nI i)), (3, .ref q), (2, .ref (d 0)), (1, .ref ad.2.2.1), (0, .ref bs)]) hx hb dL_law_1001 hl (by decide) rfl (fun ls hl => ?_)
  refine lv_aload_n hx hb dL_law_1003 rfl (lv_at hl 3 rfl) ?_
  refine lv_aload_n hx hb dL_law_1004 rfl (lv_at hl 5 rfl) ?_
  refine lv_iload hx hb dL_law_1005 (lv_at hl 1 rfl) ?_
  refine lv_iconst (v := 1) hx hb dL_law_1007 (by decide) ?_
  refine lv_iadd hx hb dL_law_1008 ?_
  refine z_top (show nI i + 1 = nI (i + 1) from nI_add i 1) ?_
  refine z_sld hx hb hX hbl hbA hS (i + 1) rfl (by omega) hL dL_law_1009 ?_
  refine lv_aload_n hx hb dL_law_1010 rfl (lv_at hl 5 rfl) ?_
  refine lv_iload hx hb dL_law_1011 (lv_at hl 1 rfl) ?_
  refine lv_iconst (v := 2) hx hb dL_law_1013 (by decide) ?_
  refine lv_iadd hx hb dL_law_1014 ?_
  refine z_top (show nI i + 2 = nI (i + 2) from nI_add i 2) ?_
  refine z_sld hx hb hX hbl hbA hS (i + 2) rfl (by omega) hL dL_law_1015 ?_
  refine lv_aload_n hx hb dL_law_1016 rfl (lv_at hl 5 rfl) ?_
  refine lv_iload hx hb dL_law_1017 (lv_at hl 1 rfl) ?_
  refine lv_iconst (v := 3) hx hb dL_law_1019 (by decide) ?_
  refine lv_iadd hx hb dL_law_1020 ?_
  refine z_top (show nI i + 3 = nI (i + 3) from nI_add i 3) ?_
  refine z_sld hx hb hX hbl hbA hS (i + 3) rfl (by omega) hL dL_law_1021 ?_
  refine lv_aload_n hx hb dL_law_1022 rfl (lv_at hl 5 rfl) ?_
  refine lv_iload hx hb dL_law_1023 (lv_at hl 1 rfl) ?_
  refine lv_iconst (v := 4) hx hb dL_law_1025 (by decide) ?_
  refine lv_iadd hx hb dL_law_1026 ?_
  refine z_top (show nI i + 4 = nI (i + 4) from nI_add i 4) ?_
  refine z_sld hx hb hX hbl hbA hS (i + 4) rfl (by omega) hL dL_law_1027 ?_
  refine z_calliR (va_runV (As := [.int (xs (i + 1)), .int (xs (i + 2)), .int (xs (i + 3)), .int (xs (i + 4))]) (rest := []) ⟨hx, hb, hml, hown, hts⟩ (h2 H.size) (cwV 4 hts gL_law_X6_bit rfl hr.1 hr.2.1 (by decide +kernel) ⟨hr.2.2.1, by have := hr.2.2.2; show 8 + (5 + 11) + rm.locals ≤ 434; omega⟩) (zV (ci := 6) (q0 := 0) hK (zP_right hP) (zD_right hD) rfl (wMd_0 G d M)) rfl rfl hl.1 rfl (lv_room (Nat.le_of_ble_eq_true rfl)) dL_law_1028 ⟨hcl, hsl⟩) hP hD hS hA (fun r M1 H locs hw2 hP hD hS => ?_)
  refine lv_istore (lv' := [(6, .int r), (5, .int v), (4, .int (nI i)), (3, .ref q), (2, .ref (d 0)), (1, .ref ad.2.2.1), (0, .ref bs)]) hx hb dL_law_1031 hl (by decide) rfl (fun ls hl => ?_)
  refine lv_aload_n hx hb dL_law_1033 rfl (lv_at hl 4 rfl) ?_
  refine z_calliR (va_runV (As := []) (rest := []) ⟨hx, hb, hml, hown, hts⟩ (kM_th l G H.size d M1) (cwV 0 hts gL_law_X6_thrown rfl rfl rfl (by decide +kernel) ⟨(Nat.le_of_ble_eq_true rfl), (Nat.le_of_ble_eq_true rfl)⟩) (zV (ci := 6) (q0 := 0) hK (zP_right hP) (zD_right hD) rfl (wMd_0 G d M1)) rfl rfl hl.1 rfl (lv_room (Nat.le_of_ble_eq_true rfl)) dL_law_1034 ⟨hcl, hsl⟩) hP hD hS hA (fun t3 M3 H locs hw3 hP hD hS => ?_)
  obtain ⟨rfl, rfl⟩ := hw3
  obtain ⟨k1, k2, k3⟩ := key v u r _ hw hw2
  refine lv_iload hx hb dL_law_1037 (lv_at hl 1 rfl) ?_
  refine lv_icmp_eq (tgt := 1044) hx hb dL_law_1039 (by decide) (fun c1 => ?_) (fun c1 => absurd k1 c1)
  refine lv_iload hx hb dL_law_1044 (lv_at hl 1 rfl) ?_
  refine lv_if_ne (tgt := 1061) hx hb dL_law_1046 (by decide) (fun c2 => ?_) (fun c2 => ?_)
  · refine lv_goto (tgt := 1392) hx hb dL_law_1061 (by decide) ?_
    exact kk u.1 u.2 _ _ _ _ k3 hP hD hS (lv_sub hl [2, 3, 4, 5, 6] rfl)
  · refine lv_aload_n hx hb dL_law_1049 rfl (lv_at hl 3 rfl) ?_
    refine lv_iconst (v := 0) hx hb dL_law_1050 (by decide) ?_
    refine z_lald hx hb hK (zP_asc hP) dL_law_1051 ?_
    refine lv_iload hx hb dL_law_1052 (lv_at hl 0 rfl) ?_
    refine lv_i2l hx hb dL_law_1054 rfl ?_
    refine W.lcmp hx hb dL_law_1055 ?_
    refine lv_if_eq (tgt := 1061) hx hb dL_law_1056 (by decide) (fun c3 => ?_) (fun c3 => absurd (z_cmp0 (k2 c2)) c3)
    refine lv_goto (tgt := 1392) hx hb dL_law_1061 (by decide) ?_
    exact kk u.1 u.2 _ _ _ _ k3 hP hD hS (lv_sub hl [2, 3, 4, 5, 6] rfl)
set_option maxRecDepth 100000 in
theorem lc_ifFrame {p : Program} {l : Launch} {e : Env} {s : State} {m : MethodId} {below : List Frame} {meth : Method} {c : Code} {bs L : Nat} {xs : Nat → Int32} {G : zG} {A : Nat → Prop} {H : Heap} {locs : List Loc} {ls : Array Slot} {cells slots : Nat} {Q : State → Prop} (C0 : lwX p s m c bs L xs G A) {i : Nat} (hi : i + 4 < L) {ad : zAd} {q : Nat} {d : Nat → Nat} {D : zDc} {M : zRd} {ov : Nat → Int64} {B : Nat}
    (h : crW l G ad q d D M ov B yL_ifFrame wsL_ifFrame yX6_ifFrame wsX6_ifFrame [.ref ad.2.2.1, .int (xs (i + 1)), .int (xs (i + 2)), .int (xs (i + 3)), .int (xs (i + 4)), .ref q] [.ref (d 0), .int (xs (i + 1)), .int (xs (i + 2)), .int (xs (i + 3)), .int (xs (i + 4))])
    (hl : lv_has ls 9 [(4, .int (nI i)), (3, .ref q), (2, .ref (d 0)), (1, .ref ad.2.2.1), (0, .ref bs)]) (hP : va_P G.1 vwCl ((wO G q ov ++ wCl G ad D) ++ wMd G d M) H) (hD : va_D A ((wO G q ov ++ wCl G ad D) ++ wMd G d M)) (hS : va_S A s.heap H locs) (hcl : cells + 1 ≤ 601024) (hsl : slots + 6 ≤ 7293034)
    (kk : ∀ (D' : zDc) (ov' : Nat → Int64) (M' : zRd) (H : Heap) (locs : List Loc) (ls : Array Slot), relA (B + 6200) D' M' → va_P G.1 vwCl ((wO G q ov' ++ wCl G ad D') ++ wMd G d M') H → va_D A ((wO G q ov' ++ wCl G ad D') ++ wMd G d M') → va_S A s.heap H locs → lv_has ls 9 [(4, .int (nI i)), (3, .ref q), (2, .ref (d 0)), (1, .ref ad.2.2.1), (0, .ref bs)] → W p l e room_1 s m #[Value.ref bs] below meth c H locs (cells + 1) (slots + 6) Q (F0 m 1392 ls [])) : W p l e room_1 s m #[Value.ref bs] below meth c H locs cells slots Q (F0 m 1064 ls []) := by
  obtain ⟨hx, hb, hml, hown, hts, hX, hbl, hbA, hK, hZ, hN, hA, hL⟩ := C0
  obtain ⟨postc, postm, rm, h1, hr, h2, key⟩ := h
  refine lv_aload_n hx hb dL_law_1064 rfl (lv_at hl 3 rfl) ?_
  refine lv_aload_n hx hb dL_law_1065 rfl (lv_at hl 4 rfl) ?_
  refine lv_iload hx hb dL_law_1066 (lv_at hl 0 rfl) ?_
  refine lv_iconst (v := 1) hx hb dL_law_1068 (by decide) ?_
  refine lv_iadd hx hb dL_law_1069 ?_
  refine z_top (show nI i + 1 = nI (i + 1) from nI_add i 1) ?_
  refine z_sld hx hb hX hbl hbA hS (i + 1) rfl (by omega) hL dL_law_1070 ?_
  refine lv_aload_n hx hb dL_law_1071 rfl (lv_at hl 4 rfl) ?_
  refine lv_iload hx hb dL_law_1072 (lv_at hl 0 rfl) ?_
  refine lv_iconst (v := 2) hx hb dL_law_1074 (by decide) ?_
  refine lv_iadd hx hb dL_law_1075 ?_
  refine z_top (show nI i + 2 = nI (i + 2) from nI_add i 2) ?_
  refine z_sld hx hb hX hbl hbA hS (i + 2) rfl (by omega) hL dL_law_1076 ?_
  refine lv_aload_n hx hb dL_law_1077 rfl (lv_at hl 4 rfl) ?_
  refine lv_iload hx hb dL_law_1078 (lv_at hl 0 rfl) ?_
  refine lv_iconst (v := 3) hx hb dL_law_1080 (by decide) ?_
  refine lv_iadd hx hb dL_law_1081 ?_
  refine z_top (show nI i + 3 = nI (i + 3) from nI_add i 3) ?_
  refine z_sld hx hb hX hbl hbA hS (i + 3) rfl (by omega) hL dL_law_1082 ?_
  refine lv_aload_n hx hb dL_law_1083 rfl (lv_at hl 4 rfl) ?_
  refine lv_iload hx hb dL_law_1084 (lv_at hl 0 rfl) ?_
  refine lv_iconst (v := 4) hx hb dL_law_1086 (by decide) ?_
  refine lv_iadd hx hb dL_law_1087 ?_
  refine z_top (show nI i + 4 = nI (i + 4) from nI_add i 4) ?_
  refine z_sld hx hb hX hbl hbA hS (i + 4) rfl (by omega) hL dL_law_1088 ?_
  refine lv_aload_n hx hb dL_law_1089 rfl (lv_at hl 1 rfl) ?_
  refine z_calliL (vx_runSW (As := [.ref ad.2.2.1, .int (xs (i + 1)), .int (xs (i + 2)), .int (xs (i + 3)), .int (xs (i + 4)), .ref q]) (rest := []) ⟨hx, hb, hml, hown, hts⟩ (h1 H.size) (vx_cwSW 6 hts gL_law_L_ifFrame rfl rfl rfl (by decide +kernel) ⟨(Nat.le_of_ble_eq_true rfl), (Nat.le_of_ble_eq_true rfl)⟩) (zSe hK (zP_left hP) (zD_left hD) hS hZ hN hA) rfl rfl hl.1 rfl (lv_room (Nat.le_of_ble_eq_true rfl)) dL_law_1090 ⟨hcl, hsl⟩) hP hD hS hA (fun v u H locs hw hP hD hS => ?_)
  refine lv_istore (lv' := [(5, .int v), (4, .int (nI i)), (3, .ref q), (2, .ref (d 0)), (1, .ref ad.2.2.1), (0, .ref bs)]) hx hb dL_law_1093 hl (by decide) rfl (fun ls hl => ?_)
  refine lv_aload_n hx hb dL_law_1095 rfl (lv_at hl 3 rfl) ?_
  refine lv_aload_n hx hb dL_law_1096 rfl (lv_at hl 5 rfl) ?_
  refine lv_iload hx hb dL_law_1097 (lv_at hl 1 rfl) ?_
  refine lv_iconst (v := 1) hx hb dL_law_1099 (by decide) ?_
  refine lv_iadd hx hb dL_law_1100 ?_
  refine z_top (show nI i + 1 = nI (i + 1) from nI_add i 1) ?_
  refine z_sld hx hb hX hbl hbA hS (i + 1) rfl (by omega) hL dL_law_1101 ?_
  refine lv_aload_n hx hb dL_law_1102 rfl (lv_at hl 5 rfl) ?_
  refine lv_iload hx hb dL_law_1103 (lv_at hl 1 rfl) ?_
  refine lv_iconst (v := 2) hx hb dL_law_1105 (by decide) ?_
  refine lv_iadd hx hb dL_law_1106 ?_
  refine z_top (show nI i + 2 = nI (i + 2) from nI_add i 2) ?_
  refine z_sld hx hb hX hbl hbA hS (i + 2) rfl (by omega) hL dL_law_1107 ?_
  refine lv_aload_n hx hb dL_law_1108 rfl (lv_at hl 5 rfl) ?_
  refine lv_iload hx hb dL_law_1109 (lv_at hl 1 rfl) ?_
  refine lv_iconst (v := 3) hx hb dL_law_1111 (by decide) ?_
  refine lv_iadd hx hb dL_law_1112 ?_
  refine z_top (show nI i + 3 = nI (i + 3) from nI_add i 3) ?_
  refine z_sld hx hb hX hbl hbA hS (i + 3) rfl (by omega) hL dL_law_1113 ?_
  refine lv_aload_n hx hb dL_law_1114 rfl (lv_at hl 5 rfl) ?_
  refine lv_iload hx hb dL_law_1115 (lv_at hl 1 rfl) ?_
  refine lv_iconst (v := 4) hx hb dL_law_1117 (by decide) ?_
  refine lv_iadd hx hb dL_law_1118 ?_
  refine z_top (show nI i + 4 = nI (i + 4) from nI_add i 4) ?_
  refine z_sld hx hb hX hbl hbA hS (i + 4) rfl (by omega) hL dL_law_1119 ?_
  refine z_calliR (va_runV (As := [.int (xs (i + 1)), .int (xs (i + 2)), .int (xs (i + 3)), .int (xs (i + 4))]) (rest := []) ⟨hx, hb, hml, hown, hts⟩ (h2 H.size) (cwV 4 hts gL_law_X6_ifFrame rfl hr.1 hr.2.1 (by decide +kernel) ⟨hr.2.2.1, by have := hr.2.2.2; show 8 + (5 + 11) + rm.locals ≤ 434; omega⟩) (zV (ci := 6) (q0 := 0) hK (zP_right hP) (zD_right hD) rfl (wMd_0 G d M)) rfl rfl hl.1 rfl (lv_room (Nat.le_of_ble_eq_true rfl)) dL_law_1120 ⟨hcl, hsl⟩) hP hD hS hA (fun r M1 H locs hw2 hP hD hS => ?_)
  refine lv_istore (lv' := [(6, .int r), (5, .int v), (4, .int (nI i)), (3, .ref q), (2, .ref (d 0)), (1, .ref ad.2.2.1), (0, .ref bs)]) hx hb dL_law_1123 hl (by decide) rfl (fun ls hl => ?_)
  refine lv_aload_n hx hb dL_law_1125 rfl (lv_at hl 4 rfl) ?_
  refine z_calliR (va_runV (As := []) (rest := []) ⟨hx, hb, hml, hown, hts⟩ (kM_th l G H.size d M1) (cwV 0 hts gL_law_X6_thrown rfl rfl rfl (by decide +kernel) ⟨(Nat.le_of_ble_eq_true rfl), (Nat.le_of_ble_eq_true rfl)⟩) (zV (ci := 6) (q0 := 0) hK (zP_right hP) (zD_right hD) rfl (wMd_0 G d M1)) rfl rfl hl.1 rfl (lv_room (Nat.le_of_ble_eq_true rfl)) dL_law_1126 ⟨hcl, hsl⟩) hP hD hS hA (fun t3 M3 H locs hw3 hP hD hS => ?_)
  obtain ⟨rfl, rfl⟩ := hw3
  obtain ⟨k1, k2, k3⟩ := key v u r _ hw hw2
  refine lv_iload hx hb dL_law_1129 (lv_at hl 1 rfl) ?_
  refine lv_icmp_eq (tgt := 1136) hx hb dL_law_1131 (by decide) (fun c1 => ?_) (fun c1 => absurd k1 c1)
  refine lv_iload hx hb dL_law_1136 (lv_at hl 1 rfl) ?_
  refine lv_if_ne (tgt := 1153) hx hb dL_law_1138 (by decide) (fun c2 => ?_) (fun c2 => ?_)
  · refine lv_goto (tgt := 1392) hx hb dL_law_1153 (by decide) ?_
    exact kk u.1 u.2 _ _ _ _ k3 hP hD hS (lv_sub hl [2, 3, 4, 5, 6] rfl)
  · refine lv_aload_n hx hb dL_law_1141 rfl (lv_at hl 3 rfl) ?_
    refine lv_iconst (v := 0) hx hb dL_law_1142 (by decide) ?_
    refine z_lald hx hb hK (zP_asc hP) dL_law_1143 ?_
    refine lv_iload hx hb dL_law_1144 (lv_at hl 0 rfl) ?_
    refine lv_i2l hx hb dL_law_1146 rfl ?_
    refine W.lcmp hx hb dL_law_1147 ?_
    refine lv_if_eq (tgt := 1153) hx hb dL_law_1148 (by decide) (fun c3 => ?_) (fun c3 => absurd (z_cmp0 (k2 c2)) c3)
    refine lv_goto (tgt := 1392) hx hb dL_law_1153 (by decide) ?_
    exact kk u.1 u.2 _ _ _ _ k3 hP hD hS (lv_sub hl [2, 3, 4, 5, 6] rfl)
set_option maxRecDepth 100000 in
theorem lc_append {p : Program} {l : Launch} {e : Env} {s : State} {m : MethodId} {below : List Frame} {meth : Method} {c : Code} {bs L : Nat} {xs : Nat → Int32} {G : zG} {A : Nat → Prop} {H : Heap} {locs : List Loc} {ls : Array Slot} {cells slots : Nat} {Q : State → Prop} (C0 : lwX p s m c bs L xs G A) {i : Nat} (hi : i + 4 < L) {ad : zAd} {q : Nat} {d : Nat → Nat} {D : zDc} {M : zRd} {ov : Nat → Int64} {B : Nat}
    (h : crW l G ad q d D M ov B yL_append wsL_append yX6_append wsX6_append [.ref ad.2.2.1, .int (xs (i + 1)), .ref q] [.ref (d 0), .int (xs (i + 1))])
    (hl : lv_has ls 9 [(4, .int (nI i)), (3, .ref q), (2, .ref (d 0)), (1, .ref ad.2.2.1), (0, .ref bs)]) (hP : va_P G.1 vwCl ((wO G q ov ++ wCl G ad D) ++ wMd G d M) H) (hD : va_D A ((wO G q ov ++ wCl G ad D) ++ wMd G d M)) (hS : va_S A s.heap H locs) (hcl : cells + 1 ≤ 601024) (hsl : slots + 6 ≤ 7293034)
    (kk : ∀ (D' : zDc) (ov' : Nat → Int64) (M' : zRd) (H : Heap) (locs : List Loc) (ls : Array Slot), relA (B + 6200) D' M' → va_P G.1 vwCl ((wO G q ov' ++ wCl G ad D') ++ wMd G d M') H → va_D A ((wO G q ov' ++ wCl G ad D') ++ wMd G d M') → va_S A s.heap H locs → lv_has ls 9 [(4, .int (nI i)), (3, .ref q), (2, .ref (d 0)), (1, .ref ad.2.2.1), (0, .ref bs)] → W p l e room_1 s m #[Value.ref bs] below meth c H locs (cells + 1) (slots + 6) Q (F0 m 1392 ls [])) : W p l e room_1 s m #[Value.ref bs] below meth c H locs cells slots Q (F0 m 1195 ls []) := by
  obtain ⟨hx, hb, hml, hown, hts, hX, hbl, hbA, hK, hZ, hN, hA, hL⟩ := C0
  obtain ⟨postc, postm, rm, h1, hr, h2, key⟩ := h
  refine lv_aload_n hx hb dL_law_1195 rfl (lv_at hl 3 rfl) ?_
  refine lv_aload_n hx hb dL_law_1196 rfl (lv_at hl 4 rfl) ?_
  refine lv_iload hx hb dL_law_1197 (lv_at hl 0 rfl) ?_
  refine lv_iconst (v := 1) hx hb dL_law_1199 (by decide) ?_
  refine lv_iadd hx hb dL_law_1200 ?_
  refine z_top (show nI i + 1 = nI (i + 1) from nI_add i 1) ?_
  refine z_sld hx hb hX hbl hbA hS (i + 1) rfl (by omega) hL dL_law_1201 ?_
  refine lv_aload_n hx hb dL_law_1202 rfl (lv_at hl 1 rfl) ?_
  refine z_calliL (vx_runSW (As := [.ref ad.2.2.1, .int (xs (i + 1)), .ref q]) (rest := []) ⟨hx, hb, hml, hown, hts⟩ (h1 H.size) (vx_cwSW 3 hts gL_law_L_append rfl rfl rfl (by decide +kernel) ⟨(Nat.le_of_ble_eq_true rfl), (Nat.le_of_ble_eq_true rfl)⟩) (zSe hK (zP_left hP) (zD_left hD) hS hZ hN hA) rfl rfl hl.1 rfl (lv_room (Nat.le_of_ble_eq_true rfl)) dL_law_1203 ⟨hcl, hsl⟩) hP hD hS hA (fun v u H locs hw hP hD hS => ?_)
  refine lv_istore (lv' := [(5, .int v), (4, .int (nI i)), (3, .ref q), (2, .ref (d 0)), (1, .ref ad.2.2.1), (0, .ref bs)]) hx hb dL_law_1206 hl (by decide) rfl (fun ls hl => ?_)
  refine lv_aload_n hx hb dL_law_1208 rfl (lv_at hl 3 rfl) ?_
  refine lv_aload_n hx hb dL_law_1209 rfl (lv_at hl 5 rfl) ?_
  refine lv_iload hx hb dL_law_1210 (lv_at hl 1 rfl) ?_
  refine lv_iconst (v := 1) hx hb dL_law_1212 (by decide) ?_
  refine lv_iadd hx hb dL_law_1213 ?_
  refine z_top (show nI i + 1 = nI (i + 1) from nI_add i 1) ?_
  refine z_sld hx hb hX hbl hbA hS (i + 1) rfl (by omega) hL dL_law_1214 ?_
  refine z_calliR (va_runV (As := [.int (xs (i + 1))]) (rest := []) ⟨hx, hb, hml, hown, hts⟩ (h2 H.size) (cwV 1 hts gL_law_X6_append rfl hr.1 hr.2.1 (by decide +kernel) ⟨hr.2.2.1, by have := hr.2.2.2; show 8 + (2 + 11) + rm.locals ≤ 434; omega⟩) (zV (ci := 6) (q0 := 0) hK (zP_right hP) (zD_right hD) rfl (wMd_0 G d M)) rfl rfl hl.1 rfl (lv_room (Nat.le_of_ble_eq_true rfl)) dL_law_1215 ⟨hcl, hsl⟩) hP hD hS hA (fun r M1 H locs hw2 hP hD hS => ?_)
  refine lv_istore (lv' := [(6, .int r), (5, .int v), (4, .int (nI i)), (3, .ref q), (2, .ref (d 0)), (1, .ref ad.2.2.1), (0, .ref bs)]) hx hb dL_law_1218 hl (by decide) rfl (fun ls hl => ?_)
  refine lv_aload_n hx hb dL_law_1220 rfl (lv_at hl 4 rfl) ?_
  refine z_calliR (va_runV (As := []) (rest := []) ⟨hx, hb, hml, hown, hts⟩ (kM_th l G H.size d M1) (cwV 0 hts gL_law_X6_thrown rfl rfl rfl (by decide +kernel) ⟨(Nat.le_of_ble_eq_true rfl), (Nat.le_of_ble_eq_true rfl)⟩) (zV (ci := 6) (q0 := 0) hK (zP_right hP) (zD_right hD) rfl (wMd_0 G d M1)) rfl rfl hl.1 rfl (lv_room (Nat.le_of_ble_eq_true rfl)) dL_law_1221 ⟨hcl, hsl⟩) hP hD hS hA (fun t3 M3 H locs hw3 hP hD hS => ?_)
  obtain ⟨rfl, rfl⟩ := hw3
  obtain ⟨k1, k2, k3⟩ := key v u r _ hw hw2
  refine lv_iload hx hb dL_law_1224 (lv_at hl 1 rfl) ?_
  refine lv_icmp_eq (tgt := 1231) hx hb dL_law_1226 (by decide) (fun c1 => ?_) (fun c1 => absurd k1 c1)
  refine lv_iload hx hb dL_law_1231 (lv_at hl 1 rfl) ?_
  refine lv_if_ne (tgt := 1248) hx hb dL_law_1233 (by decide) (fun c2 => ?_) (fun c2 => ?_)
  · refine lv_goto (tgt := 1392) hx hb dL_law_1248 (by decide) ?_
    exact kk u.1 u.2 _ _ _ _ k3 hP hD hS (lv_sub hl [2, 3, 4, 5, 6] rfl)
  · refine lv_aload_n hx hb dL_law_1236 rfl (lv_at hl 3 rfl) ?_
    refine lv_iconst (v := 0) hx hb dL_law_1237 (by decide) ?_
    refine z_lald hx hb hK (zP_asc hP) dL_law_1238 ?_
    refine lv_iload hx hb dL_law_1239 (lv_at hl 0 rfl) ?_
    refine lv_i2l hx hb dL_law_1241 rfl ?_
    refine W.lcmp hx hb dL_law_1242 ?_
    refine lv_if_eq (tgt := 1248) hx hb dL_law_1243 (by decide) (fun c3 => ?_) (fun c3 => absurd (z_cmp0 (k2 c2)) c3)
    refine lv_goto (tgt := 1392) hx hb dL_law_1248 (by decide) ?_
    exact kk u.1 u.2 _ _ _ _ k3 hP hD hS (lv_sub hl [2, 3, 4, 5, 6] rfl)
set_option maxRecDepth 100000 in
theorem lc_run {p : Program} {l : Launch} {e : Env} {s : State} {m : MethodId} {below : List Frame} {meth : Method} {c : Code} {bs L : Nat} {xs : Nat → Int32} {G : zG} {A : Nat → Prop} {H : Heap} {locs : List Loc} {ls : Array Slot} {cells slots : Nat} {Q : State → Prop} (C0 : lwX p s m c bs L xs G A) {i : Nat} (hi : i + 4 < L) {ad : zAd} {q : Nat} {d : Nat → Nat} {D : zDc} {M : zRd} {ov : Nat → Int64} {B : Nat}
    (h : crW l G ad q d D M ov B yL_run wsL_run yX6_run wsX6_run [.ref ad.2.2.1, .ref q] [.ref (d 0)])
    (hl : lv_has ls 9 [(4, .int (nI i)), (3, .ref q), (2, .ref (d 0)), (1, .ref ad.2.2.1), (0, .ref bs)]) (hP : va_P G.1 vwCl ((wO G q ov ++ wCl G ad D) ++ wMd G d M) H) (hD : va_D A ((wO G q ov ++ wCl G ad D) ++ wMd G d M)) (hS : va_S A s.heap H locs) (hcl : cells + 1 ≤ 601024) (hsl : slots + 6 ≤ 7293034)
    (kk : ∀ (D' : zDc) (ov' : Nat → Int64) (M' : zRd) (H : Heap) (locs : List Loc) (ls : Array Slot), relA (B + 6200) D' M' → va_P G.1 vwCl ((wO G q ov' ++ wCl G ad D') ++ wMd G d M') H → va_D A ((wO G q ov' ++ wCl G ad D') ++ wMd G d M') → va_S A s.heap H locs → lv_has ls 9 [(4, .int (nI i)), (3, .ref q), (2, .ref (d 0)), (1, .ref ad.2.2.1), (0, .ref bs)] → W p l e room_1 s m #[Value.ref bs] below meth c H locs (cells + 1) (slots + 6) Q (F0 m 1392 ls [])) : W p l e room_1 s m #[Value.ref bs] below meth c H locs cells slots Q (F0 m 1277 ls []) := by
  obtain ⟨hx, hb, hml, hown, hts, hX, hbl, hbA, hK, hZ, hN, hA, hL⟩ := C0
  obtain ⟨postc, postm, rm, h1, hr, h2, key⟩ := h
  refine lv_aload_n hx hb dL_law_1277 rfl (lv_at hl 3 rfl) ?_
  refine lv_aload_n hx hb dL_law_1278 rfl (lv_at hl 1 rfl) ?_
  refine z_calliL (vx_runSW (As := [.ref ad.2.2.1, .ref q]) (rest := []) ⟨hx, hb, hml, hown, hts⟩ (h1 H.size) (vx_cwSW 2 hts gL_law_L_run rfl rfl rfl (by decide +kernel) ⟨(Nat.le_of_ble_eq_true rfl), (Nat.le_of_ble_eq_true rfl)⟩) (zSe hK (zP_left hP) (zD_left hD) hS hZ hN hA) rfl rfl hl.1 rfl (lv_room (Nat.le_of_ble_eq_true rfl)) dL_law_1279 ⟨hcl, hsl⟩) hP hD hS hA (fun v u H locs hw hP hD hS => ?_)
  refine lv_istore (lv' := [(5, .int v), (4, .int (nI i)), (3, .ref q), (2, .ref (d 0)), (1, .ref ad.2.2.1), (0, .ref bs)]) hx hb dL_law_1282 hl (by decide) rfl (fun ls hl => ?_)
  refine lv_aload_n hx hb dL_law_1284 rfl (lv_at hl 3 rfl) ?_
  refine z_calliR (va_runV (As := []) (rest := []) ⟨hx, hb, hml, hown, hts⟩ (h2 H.size) (cwV 0 hts gL_law_X6_run rfl hr.1 hr.2.1 (by decide +kernel) ⟨hr.2.2.1, by have := hr.2.2.2; show 8 + (2 + 11) + rm.locals ≤ 434; omega⟩) (zV (ci := 6) (q0 := 0) hK (zP_right hP) (zD_right hD) rfl (wMd_0 G d M)) rfl rfl hl.1 rfl (lv_room (Nat.le_of_ble_eq_true rfl)) dL_law_1285 ⟨hcl, hsl⟩) hP hD hS hA (fun r M1 H locs hw2 hP hD hS => ?_)
  refine lv_istore (lv' := [(6, .int r), (5, .int v), (4, .int (nI i)), (3, .ref q), (2, .ref (d 0)), (1, .ref ad.2.2.1), (0, .ref bs)]) hx hb dL_law_1288 hl (by decide) rfl (fun ls hl => ?_)
  refine lv_aload_n hx hb dL_law_1290 rfl (lv_at hl 4 rfl) ?_
  refine z_calliR (va_runV (As := []) (rest := []) ⟨hx, hb, hml, hown, hts⟩ (kM_th l G H.size d M1) (cwV 0 hts gL_law_X6_thrown rfl rfl rfl (by decide +kernel) ⟨(Nat.le_of_ble_eq_true rfl), (Nat.le_of_ble_eq_true rfl)⟩) (zV (ci := 6) (q0 := 0) hK (zP_right hP) (zD_right hD) rfl (wMd_0 G d M1)) rfl rfl hl.1 rfl (lv_room (Nat.le_of_ble_eq_true rfl)) dL_law_1291 ⟨hcl, hsl⟩) hP hD hS hA (fun t3 M3 H locs hw3 hP hD hS => ?_)
  obtain ⟨rfl, rfl⟩ := hw3
  obtain ⟨k1, k2, k3⟩ := key v u r _ hw hw2
  refine lv_iload hx hb dL_law_1294 (lv_at hl 1 rfl) ?_
  refine lv_icmp_eq (tgt := 1301) hx hb dL_law_1296 (by decide) (fun c1 => ?_) (fun c1 => absurd k1 c1)
  refine lv_iload hx hb dL_law_1301 (lv_at hl 1 rfl) ?_
  refine lv_if_ne (tgt := 1318) hx hb dL_law_1303 (by decide) (fun c2 => ?_) (fun c2 => ?_)
  · refine lv_goto (tgt := 1392) hx hb dL_law_1318 (by decide) ?_
    exact kk u.1 u.2 _ _ _ _ k3 hP hD hS (lv_sub hl [2, 3, 4, 5, 6] rfl)
  · refine lv_aload_n hx hb dL_law_1306 rfl (lv_at hl 3 rfl) ?_
    refine lv_iconst (v := 0) hx hb dL_law_1307 (by decide) ?_
    refine z_lald hx hb hK (zP_asc hP) dL_law_1308 ?_
    refine lv_iload hx hb dL_law_1309 (lv_at hl 0 rfl) ?_
    refine lv_i2l hx hb dL_law_1311 rfl ?_
    refine W.lcmp hx hb dL_law_1312 ?_
    refine lv_if_eq (tgt := 1318) hx hb dL_law_1313 (by decide) (fun c3 => ?_) (fun c3 => absurd (z_cmp0 (k2 c2)) c3)
    refine lv_goto (tgt := 1392) hx hb dL_law_1318 (by decide) ?_
    exact kk u.1 u.2 _ _ _ _ k3 hP hD hS (lv_sub hl [2, 3, 4, 5, 6] rfl)
set_option maxRecDepth 100000 in
theorem lc_undo {p : Program} {l : Launch} {e : Env} {s : State} {m : MethodId} {below : List Frame} {meth : Method} {c : Code} {bs L : Nat} {xs : Nat → Int32} {G : zG} {A : Nat → Prop} {H : Heap} {locs : List Loc} {ls : Array Slot} {cells slots : Nat} {Q : State → Prop} (C0 : lwX p s m c bs L xs G A) {i : Nat} (hi : i + 4 < L) {ad : zAd} {q : Nat} {d : Nat → Nat} {D : zDc} {M : zRd} {ov : Nat → Int64} {B : Nat}
    (h : crW l G ad q d D M ov B yL_undo wsL_undo yX6_undo wsX6_undo [.ref ad.2.2.1, .ref q] [.ref (d 0)])
    (hl : lv_has ls 9 [(4, .int (nI i)), (3, .ref q), (2, .ref (d 0)), (1, .ref ad.2.2.1), (0, .ref bs)]) (hP : va_P G.1 vwCl ((wO G q ov ++ wCl G ad D) ++ wMd G d M) H) (hD : va_D A ((wO G q ov ++ wCl G ad D) ++ wMd G d M)) (hS : va_S A s.heap H locs) (hcl : cells + 1 ≤ 601024) (hsl : slots + 6 ≤ 7293034)
    (kk : ∀ (D' : zDc) (ov' : Nat → Int64) (M' : zRd) (H : Heap) (locs : List Loc) (ls : Array Slot), relA (B + 6200) D' M' → va_P G.1 vwCl ((wO G q ov' ++ wCl G ad D') ++ wMd G d M') H → va_D A ((wO G q ov' ++ wCl G ad D') ++ wMd G d M') → va_S A s.heap H locs → lv_has ls 9 [(4, .int (nI i)), (3, .ref q), (2, .ref (d 0)), (1, .ref ad.2.2.1), (0, .ref bs)] → W p l e room_1 s m #[Value.ref bs] below meth c H locs (cells + 1) (slots + 6) Q (F0 m 1392 ls [])) : W p l e room_1 s m #[Value.ref bs] below meth c H locs cells slots Q (F0 m 1321 ls []) := by
  obtain ⟨hx, hb, hml, hown, hts, hX, hbl, hbA, hK, hZ, hN, hA, hL⟩ := C0
  obtain ⟨postc, postm, rm, h1, hr, h2, key⟩ := h
  refine lv_aload_n hx hb dL_law_1321 rfl (lv_at hl 3 rfl) ?_
  refine lv_aload_n hx hb dL_law_1322 rfl (lv_at hl 1 rfl) ?_
  refine z_calliL (vx_runSW (As := [.ref ad.2.2.1, .ref q]) (rest := []) ⟨hx, hb, hml, hown, hts⟩ (h1 H.size) (vx_cwSW 2 hts gL_law_L_undo rfl rfl rfl (by decide +kernel) ⟨(Nat.le_of_ble_eq_true rfl), (Nat.le_of_ble_eq_true rfl)⟩) (zSe hK (zP_left hP) (zD_left hD) hS hZ hN hA) rfl rfl hl.1 rfl (lv_room (Nat.le_of_ble_eq_true rfl)) dL_law_1323 ⟨hcl, hsl⟩) hP hD hS hA (fun v u H locs hw hP hD hS => ?_)
  refine lv_istore (lv' := [(5, .int v), (4, .int (nI i)), (3, .ref q), (2, .ref (d 0)), (1, .ref ad.2.2.1), (0, .ref bs)]) hx hb dL_law_1326 hl (by decide) rfl (fun ls hl => ?_)
  refine lv_aload_n hx hb dL_law_1328 rfl (lv_at hl 3 rfl) ?_
  refine z_calliR (va_runV (As := []) (rest := []) ⟨hx, hb, hml, hown, hts⟩ (h2 H.size) (cwV 0 hts gL_law_X6_undo rfl hr.1 hr.2.1 (by decide +kernel) ⟨hr.2.2.1, by have := hr.2.2.2; show 8 + (2 + 11) + rm.locals ≤ 434; omega⟩) (zV (ci := 6) (q0 := 0) hK (zP_right hP) (zD_right hD) rfl (wMd_0 G d M)) rfl rfl hl.1 rfl (lv_room (Nat.le_of_ble_eq_true rfl)) dL_law_1329 ⟨hcl, hsl⟩) hP hD hS hA (fun r M1 H locs hw2 hP hD hS => ?_)
  refine lv_istore (lv' := [(6, .int r), (5, .int v), (4, .int (nI i)), (3, .ref q), (2, .ref (d 0)), (1, .ref ad.2.2.1), (0, .ref bs)]) hx hb dL_law_1332 hl (by decide) rfl (fun ls hl => ?_)
  refine lv_aload_n hx hb dL_law_1334 rfl (lv_at hl 4 rfl) ?_
  refine z_calliR (va_runV (As := []) (rest := []) ⟨hx, hb, hml, hown, hts⟩ (kM_th l G H.size d M1) (cwV 0 hts gL_law_X6_thrown rfl rfl rfl (by decide +kernel) ⟨(Nat.le_of_ble_eq_true rfl), (Nat.le_of_ble_eq_true rfl)⟩) (zV (ci := 6) (q0 := 0) hK (zP_right hP) (zD_right hD) rfl (wMd_0 G d M1)) rfl rfl hl.1 rfl (lv_room (Nat.le_of_ble_eq_true rfl)) dL_law_1335 ⟨hcl, hsl⟩) hP hD hS hA (fun t3 M3 H locs hw3 hP hD hS => ?_)
  obtain ⟨rfl, rfl⟩ := hw3
  obtain ⟨k1, k2, k3⟩ := key v u r _ hw hw2
  refine lv_iload hx hb dL_law_1338 (lv_at hl 1 rfl) ?_
  refine lv_icmp_eq (tgt := 1345) hx hb dL_law_1340 (by decide) (fun c1 => ?_) (fun c1 => absurd k1 c1)
  refine lv_iload hx hb dL_law_1345 (lv_at hl 1 rfl) ?_
  refine lv_if_ne (tgt := 1362) hx hb dL_law_1347 (by decide) (fun c2 => ?_) (fun c2 => ?_)
  · refine lv_goto (tgt := 1392) hx hb dL_law_1362 (by decide) ?_
    exact kk u.1 u.2 _ _ _ _ k3 hP hD hS (lv_sub hl [2, 3, 4, 5, 6] rfl)
  · refine lv_aload_n hx hb dL_law_1350 rfl (lv_at hl 3 rfl) ?_
    refine lv_iconst (v := 0) hx hb dL_law_1351 (by decide) ?_
    refine z_lald hx hb hK (zP_asc hP) dL_law_1352 ?_
    refine lv_iload hx hb dL_law_1353 (lv_at hl 0 rfl) ?_
    refine lv_i2l hx hb dL_law_1355 rfl ?_
    refine W.lcmp hx hb dL_law_1356 ?_
    refine lv_if_eq (tgt := 1362) hx hb dL_law_1357 (by decide) (fun c3 => ?_) (fun c3 => absurd (z_cmp0 (k2 c2)) c3)
    refine lv_goto (tgt := 1392) hx hb dL_law_1362 (by decide) ?_
    exact kk u.1 u.2 _ _ _ _ k3 hP hD hS (lv_sub hl [2, 3, 4, 5, 6] rfl)
end LCW
