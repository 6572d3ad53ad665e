section PD
set_option maxRecDepth 100000 in
theorem pC_remembered' (l : Launch) (G : zG) (sz : Nat) (ad : zAd) {D : zDc} {N : zN} {n : Nat} (h : J n D N) {V : Int32} (e : (if rem N then nI (N 3) else -1) = V) : zMi l yX5_remembered wsX5_remembered ({ frames := 1, cells := 0, slots := 0, locals := 20 } : Room) [.ref ad.2.2.1] G (wCl G ad D) (fun (v : Int32) (D' : zDc) => v = V ∧ D' = D) (fun D' => wCl G ad D') sz 0 0 := by
  exact zMi_post (pC_remembered l G sz ad h) (fun v D' hD => ⟨hD.1.trans e, hD.2⟩)
set_option maxRecDepth 100000 in
theorem pC_holds' (l : Launch) (G : zG) (sz : Nat) (ad : zAd) {D : zDc} {N : zN} {n : Nat} (h : J n D N) {V : Int32} (e : (if rem N then nI (N 5) else 0) = V) : zMi l yX5_holds wsX5_holds ({ frames := 1, cells := 0, slots := 0, locals := 20 } : Room) [.ref ad.2.2.1] G (wCl G ad D) (fun (v : Int32) (D' : zDc) => v = V ∧ D' = D) (fun D' => wCl G ad D') sz 0 0 := by
  exact zMi_post (pC_holds l G sz ad h) (fun v D' hD => ⟨hD.1.trans e, hD.2⟩)
set_option maxRecDepth 100000 in
theorem pC_ticksToForget' (l : Launch) (G : zG) (sz : Nat) (ad : zAd) {D : zDc} {N : zN} {n : Nat} (h : J n D N) {V : Int32} (e : (if rem N then nI (62 - N 6) else -1) = V) : zMi l yX5_ticksToForget wsX5_ticksToForget ({ frames := 1, cells := 0, slots := 0, locals := 20 } : Room) [.ref ad.2.2.1] G (wCl G ad D) (fun (v : Int32) (D' : zDc) => v = V ∧ D' = D) (fun D' => wCl G ad D') sz 0 0 := by
  exact zMi_post (pC_ticksToForget l G sz ad h) (fun v D' hD => ⟨hD.1.trans e, hD.2⟩)
set_option maxRecDepth 100000 in
theorem pC_bit' (l : Launch) (G : zG) (sz : Nat) (ad : zAd) {D : zDc} {N : zN} {n : Nat} (h : J n D N) {a9 c9 g9 i9 : Nat} (hx9 : a9 < 8) (hy9 : c9 < 16) (ht9 : g9 < 2) (hb9 : i9 < 9) : zMi l yX5_bit wsX5_bit ({ frames := 2, cells := 0, slots := 0, locals := 44 } : Room) [.ref ad.2.2.1, .int (nI a9), .int (nI c9), .int (nI g9), .int (nI i9)] G (wCl G ad D) (fun (v : Int32) (D' : zDc) => v = nI (bN a9 c9 g9 i9) ∧ D' = D) (fun D' => wCl G ad D') sz 0 0 := by
  exact zMi_post (pC_bit l G sz ad h hx9 hy9 ht9 hb9) (fun v D' hD => ⟨hD.1, hD.2⟩)
set_option maxRecDepth 100000 in
theorem pC_ifFrame' (l : Launch) (G : zG) (sz : Nat) (ad : zAd) {D : zDc} {N : zN} {n : Nat} (h : J n D N) {n0 : Nat} {N0 : zN} {k : Nat} (hu : Ud n0 N0 k D) {a9 c9 g9 st : Nat} (hx9 : a9 < 8) (hy9 : c9 < 16) (ht9 : g9 < 2) (hs1 : 1 ≤ st) (hs9 : st ≤ 10) {V : Int32} (e : (frV N a9 c9 g9 st).1 = V) : zMi l yX5_ifFrame wsX5_ifFrame ({ frames := 3, cells := 0, slots := 0, locals := 73 } : Room) [.ref ad.2.2.1, .int (nI a9), .int (nI c9), .int (nI g9), .int (nI st)] G (wCl G ad D) (fun (v : Int32) (D' : zDc) => v = V ∧ (J n D' N ∧ Ud n0 N0 k D')) (fun D' => wCl G ad D') sz 0 0 := by
  exact zMi_post (pC_ifFrame l G sz ad h hx9 hy9 ht9 hs1 hs9) (fun v D' hD => ⟨hD.1.trans e, sm_J h hD.2, Ud_sm hu hD.2⟩)
set_option maxRecDepth 100000 in
theorem pC_leastStrength' (l : Launch) (G : zG) (sz : Nat) (ad : zAd) {D : zDc} {N : zN} {n : Nat} (h : J n D N) {n0 : Nat} {N0 : zN} {k : Nat} (hu : Ud n0 N0 k D) {V : Int32} (e : (if 60 ≤ N 0 * N 1 then -1 else nI (11 - N 1)) = V) : zMi l yX5_leastStrength wsX5_leastStrength ({ frames := 3, cells := 0, slots := 0, locals := 73 } : Room) [.ref ad.2.2.1] G (wCl G ad D) (fun (v : Int32) (D' : zDc) => v = V ∧ (J n D' N ∧ Ud n0 N0 k D')) (fun D' => wCl G ad D') sz 0 0 := by
  exact zMi_post (pC_leastStrength l G sz ad h) (fun v D' hD => ⟨hD.1.trans e, sm_J h hD.2, Ud_sm hu hD.2⟩)
set_option maxRecDepth 100000 in
theorem pC_refusalsToCome' (l : Launch) (G : zG) (sz : Nat) (ad : zAd) {D : zDc} {N : zN} {n : Nat} (h : J n D N) {n0 : Nat} {N0 : zN} {k : Nat} (hu : Ud n0 N0 k D) : zMi l yX5_refusalsToCome wsX5_refusalsToCome ({ frames := 3, cells := 0, slots := 0, locals := 73 } : Room) [.ref ad.2.2.1] G (wCl G ad D) (fun (v : Int32) (D' : zDc) => rtP N v ∧ (J n D' N ∧ Ud n0 N0 k D')) (fun D' => wCl G ad D') sz 0 0 := by
  exact zMi_post (pC_refusalsToCome l G sz ad h) (fun v D' hD => ⟨hD.1, sm_J h hD.2, Ud_sm hu hD.2⟩)
set_option maxRecDepth 100000 in
theorem pC_frame' (l : Launch) (G : zG) (sz : Nat) (ad : zAd) {D : zDc} {N : zN} {n : Nat} (h : J n D N) (hn : n < 9000) {n0 : Nat} {N0 : zN} {k : Nat} (hu : Ud n0 N0 k D) (hk : k ≤ 5) {a9 c9 g9 st : Nat} (hx9 : a9 < 8) (hy9 : c9 < 16) (ht9 : g9 < 2) (hs1 : 1 ≤ st) (hs9 : st ≤ 10) {V : Int32} {M : zN} (e : frV N a9 c9 g9 st = (V, M)) : zMi l yX5_frame wsX5_frame ({ frames := 5, cells := 0, slots := 0, locals := 123 } : Room) [.ref ad.2.2.1, .int (nI a9), .int (nI c9), .int (nI g9), .int (nI st)] G (wCl G ad D) (fun (v : Int32) (D' : zDc) => v = V ∧ (J (n + 1) D' M ∧ Ud n0 N0 (k + 1) D')) (fun D' => wCl G ad D') sz 0 0 := by
  refine zMi_post (pC_frame l G sz ad h hn hx9 hy9 ht9 hs1 hs9) (fun v D' hD => ?_)
  rw [e] at hD
  exact ⟨hD.1, hD.2.1, Ud_pu hu hk h hD.2.2⟩
set_option maxRecDepth 100000 in
theorem pC_pass' (l : Launch) (G : zG) (sz : Nat) (ad : zAd) {D : zDc} {N : zN} {n : Nat} (h : J n D N) (hn : n < 9000) {n0 : Nat} {N0 : zN} {k : Nat} (hu : Ud n0 N0 k D) (hk : k ≤ 5) {y9 : Nat} (hy1 : 1 ≤ y9) (hy9 : y9 ≤ 99) {V : Int32} (e : nI (paN N y9 6) - 1 = V) : zMi l yX5_pass wsX5_pass ({ frames := 4, cells := 0, slots := 0, locals := 123 } : Room) [.ref ad.2.2.1, .int (nI y9)] G (wCl G ad D) (fun (v : Int32) (D' : zDc) => v = V ∧ (J (n + 1) D' (paN N y9) ∧ Ud n0 N0 (k + 1) D')) (fun D' => wCl G ad D') sz 0 0 := by
  exact zMi_post (pC_pass l G sz ad h hn hy1 hy9) (fun v D' hD => ⟨hD.1.trans e, hD.2.1, Ud_pu hu hk h hD.2.2⟩)
set_option maxRecDepth 100000 in
theorem pC_undo' (l : Launch) (G : zG) (sz : Nat) (ad : zAd) {D : zDc} {N : zN} {n : Nat} (h : J n D N) {n0 : Nat} {N0 : zN} {k : Nat} (hu : Ud n0 N0 (k + 1) D) : zMi l yX5_undo wsX5_undo ({ frames := 4, cells := 0, slots := 0, locals := 123 } : Room) [.ref ad.2.2.1] G (wCl G ad D) (fun (v : Int32) (D' : zDc) => (∃ j, j ≤ 5 ∧ v = nI j) ∧ ((∃ m M, J m D' M) ∧ Ud n0 N0 k D')) (fun D' => wCl G ad D') sz 0 0 := by
  obtain ⟨F, h1, h2, h3, h4, h5⟩ := Ud_tp hu
  exact zMi_post (pC_undo l G sz ad h h1) (fun v D' hD => ⟨hD.1, Ud_po (m := n) (M := N) h2 h3 h4 h5 hD.2⟩)
end PD
