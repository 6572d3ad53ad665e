/-! ===== worlds with a tail that isn't opened: their cells in another order; calls beside the tail, and with it ===== -/
section ZPERM
theorem zPm {D : va_G} {cl : List vw_C} {ws : va_W} {H : Heap} : va_P D cl ws H ↔ ∀ q ∈ ws, va_at D cl q H :=
  ⟨fun h q hq => by obtain ⟨k, hk⟩ := List.getElem?_of_mem hq; exact h k q hk, fun h k q hk => h q (List.mem_of_getElem? hk)⟩
theorem zDm {A : Nat → Prop} {ws : va_W} : va_D A ws ↔ ws.Pairwise (fun p q => p.1 ≠ q.1) ∧ ∀ q ∈ ws, A q.1 := by
  constructor
  · intro h
    refine ⟨List.pairwise_iff_getElem.mpr (fun i j hi hj hij e => ?_), fun q hq => ?_⟩
    · have := h.1 i j ws[i] ws[j] (List.getElem?_eq_getElem hi) (List.getElem?_eq_getElem hj) e
      omega
    · obtain ⟨k, hk⟩ := List.getElem?_of_mem hq
      exact h.2 k q hk
  · intro h
    refine ⟨fun i j p q hi hj e => ?_, fun k q hk => h.2 q (List.mem_of_getElem? hk)⟩
    obtain ⟨hi1, hi2⟩ := List.getElem?_eq_some_iff.mp hi
    obtain ⟨hj1, hj2⟩ := List.getElem?_eq_some_iff.mp hj
    have hp := List.pairwise_iff_getElem.mp h.1
    rcases Nat.lt_trichotomy i j with c | c | c
    · exact absurd (by rw [hi2, hj2]; exact e) (hp i j hi1 hj1 c)
    · exact c
    · exact absurd (by rw [hi2, hj2]; exact e.symm) (hp j i hj1 hi1 c)
theorem zP_perm {D : va_G} {cl : List vw_C} {ws ws' : va_W} {H : Heap} (h : ws.Perm ws') (hP : va_P D cl ws H) : va_P D cl ws' H := zPm.mpr (fun q hq => zPm.mp hP q (h.mem_iff.mpr hq))
theorem zD_perm {A : Nat → Prop} {ws ws' : va_W} (h : ws.Perm ws') (hD : va_D A ws) : va_D A ws' := by
  obtain ⟨h1, h2⟩ := zDm.mp hD
  exact zDm.mpr ⟨(h.pairwise_iff (fun {x y} (z : x.1 ≠ y.1) => z.symm)).mp h1, fun q hq => h2 q (h.mem_iff.mpr hq)⟩
theorem z_joinX {A0 : Nat → Prop} {D : va_G} {cl : List vw_C} {wr wc w1 : va_W} {H H1 : Heap} (hP : va_P D cl (wr ++ wc) H) (hD : va_D A0 (wr ++ wc))
    (hk : ∀ q : Nat, q < H.size → ¬ va_A wc H.size q → H1[q]? = H[q]?) (hF : ∀ q, va_A wc H.size q → A0 q) (hP1 : va_P D cl w1 H1) (hD1 : va_D (va_A wc H.size) w1) : va_P D cl (wr ++ w1) H1 ∧ va_D A0 (wr ++ w1) := by
  have p0 := zPm.mp hP
  obtain ⟨d1, d2⟩ := zDm.mp hD
  obtain ⟨d3, d4, d5⟩ := List.pairwise_append.mp d1
  have apart : ∀ q ∈ wr, q.1 < H.size ∧ ¬ va_A wc H.size q.1 := by
    intro q hq
    have hl := (p0 q (List.mem_append_left _ hq)).lt
    refine ⟨hl, fun h => ?_⟩
    rcases h with ⟨k2, e, h⟩ | h
    · exact d5 q hq _ (List.mem_of_getElem? h) rfl
    · omega
  refine ⟨zPm.mpr (fun q hq => ?_), zDm.mpr ⟨List.pairwise_append.mpr ⟨d3, (zDm.mp hD1).1, fun x hx y hy hxy => ?_⟩, fun q hq => ?_⟩⟩
  · rcases List.mem_append.mp hq with h | h
    · exact (p0 q (List.mem_append_left _ h)).kept (hk q.1 (apart q h).1 (apart q h).2)
    · exact zPm.mp hP1 q h
  · exact (apart x hx).2 (by rw [hxy]; exact (zDm.mp hD1).2 y hy)
  · rcases List.mem_append.mp hq with h | h
    · exact d2 q (List.mem_append_left _ h)
    · exact hF _ ((zDm.mp hD1).2 q h)
theorem z_freeX {A0 : Nat → Prop} {wr wc : va_W} {H0 H : Heap} {locs : List Loc} (hD : va_D A0 (wr ++ wc)) (hS : va_S A0 H0 H locs) (hA : ∀ q, H0.size ≤ q → A0 q) : ∀ q, va_A wc H.size q → A0 q := by
  intro q h
  rcases h with ⟨k, e, h⟩ | h
  · exact (zDm.mp hD).2 (q, e) (List.mem_append_right _ (List.mem_of_getElem? h))
  · exact hA q (Nat.le_trans hS.1 h)
/-- by places: the cells ahead of the tail in another order, or some of them -/
theorem z_pl {A : Nat → Prop} {D : va_G} {cl : List vw_C} {E F T : va_W} {H : Heap} (hP : va_P D cl (E ++ T) H) (hD : va_D A (E ++ T)) (is : List Nat) (hs : is.map (fun i => E[i]?) = F.map some) (hn : va_nd is = true) : va_P D cl (F ++ T) H ∧ va_D A (F ++ T) := by
  obtain ⟨d1, d2⟩ := zDm.mp hD
  obtain ⟨d3, d4, d5⟩ := List.pairwise_append.mp d1
  have hDE : va_D A E := zDm.mpr ⟨d3, fun q hq => d2 q (List.mem_append_left _ hq)⟩
  have hDF : va_D A F := hDE.sub is hn hs
  have hFE : ∀ q ∈ F, q ∈ E := by
    intro q hq
    obtain ⟨k, hk⟩ := List.getElem?_of_mem hq
    have h1 : (is.map (fun i => E[i]?))[k]? = some (some q) := by rw [hs, List.getElem?_map, hk]; rfl
    rw [List.getElem?_map] at h1
    cases hi : is[k]? with
    | none => rw [hi] at h1; cases h1
    | some i => rw [hi] at h1; exact List.mem_of_getElem? (Option.some.inj h1)
  refine ⟨zPm.mpr (fun q hq => ?_), zDm.mpr ⟨List.pairwise_append.mpr ⟨(zDm.mp hDF).1, d4, fun x hx y hy => d5 x (hFE x hx) y hy⟩, fun q hq => ?_⟩⟩
  · rcases List.mem_append.mp hq with h | h
    · exact zPm.mp hP q (List.mem_append_left _ (hFE q h))
    · exact zPm.mp hP q (List.mem_append_right _ h)
  · rcases List.mem_append.mp hq with h | h
    · exact d2 q (List.mem_append_left _ (hFE q h))
    · exact d2 q (List.mem_append_right _ h)
theorem z_swap {R C T : va_W} : ((R ++ C) ++ T).Perm ((R ++ T) ++ C) := by
  rw [List.append_assoc, List.append_assoc]
  exact List.Perm.append_left R List.perm_append_comm
section
variable {p : Program} {l : Launch} {e : Env} {R0 : Room} {s : State} {m : MethodId} {args : Array Value} {below : List Frame} {meth : Method} {c : Code} {H : Heap} {locs : List Loc} {cells slots : Nat} {Q : State → Prop}
variable {pc : Nat} {ls : Array Slot} {rest st0 : List Value} {G : zG} {A : Nat → Prop} {E R C T wc : va_W} {H0 : Heap} {mc ms : Nat} {a : Array Value}
theorem z_calliT {S : Type} {post : Int32 → S → Prop} {w1 : S → va_W} (hr : va_Run p l e R0 s m args below meth c H locs cells slots mc ms (F0 m pc ls st0) rest (va_Qi post (fun u t => va_P G.1 vwCl (w1 u) t.heap ∧ va_D (va_A wc H.size) (w1 u)) (va_A wc H.size) a) (va_A wc H.size))
    (hP : va_P G.1 vwCl (E ++ T) H) (hD : va_D A (E ++ T)) (hS : va_S A H0 H locs) (hA : ∀ q, H0.size ≤ q → A q) (is : List Nat) (hs : is.map (fun i => E[i]?) = (R ++ wc).map some) (hn : va_nd is = true)
    (kk : ∀ (r : Int32) (u : S) (H1 : Heap) (locs1 : List Loc), post r u → va_P G.1 vwCl ((R ++ w1 u) ++ T) H1 → va_D A ((R ++ w1 u) ++ T) → va_S A H0 H1 locs1 → W p l e R0 s m args below meth c H1 locs1 (cells + mc) (slots + ms) Q (F0 m (pc + 3) ls (.int r :: rest))) : W p l e R0 s m args below meth c H locs cells slots Q (F0 m pc ls st0) := by
  obtain ⟨hP9, hD9⟩ := z_pl hP hD is hs hn
  have hP8 := zP_perm z_swap hP9
  have hD8 := zD_perm z_swap hD9
  have hF := z_freeX hD8 hS hA
  refine va_calli hr hS (fun q _ h => hF q h) hF (fun r u t H1 locs1 ht hvm hw hB hz1 hk1 hS1 => ?_)
  obtain ⟨hP1, hD1⟩ := hB
  rw [ht] at hP1
  obtain ⟨hP2, hD2⟩ := z_joinX hP8 hD8 hk1 hF hP1 hD1
  exact kk r u H1 locs1 hw (zP_perm z_swap hP2) (zD_perm z_swap hD2) hS1
theorem z_callvT {S : Type} {post : S → Prop} {w1 : S → va_W} (hr : va_Run p l e R0 s m args below meth c H locs cells slots mc ms (F0 m pc ls st0) rest (va_Qv post (fun u t => va_P G.1 vwCl (w1 u) t.heap ∧ va_D (va_A wc H.size) (w1 u)) (va_A wc H.size) a) (va_A wc H.size))
    (hP : va_P G.1 vwCl (E ++ T) H) (hD : va_D A (E ++ T)) (hS : va_S A H0 H locs) (hA : ∀ q, H0.size ≤ q → A q) (is : List Nat) (hs : is.map (fun i => E[i]?) = (R ++ wc).map some) (hn : va_nd is = true)
    (kk : ∀ (u : S) (H1 : Heap) (locs1 : List Loc), post u → va_P G.1 vwCl ((R ++ w1 u) ++ T) H1 → va_D A ((R ++ w1 u) ++ T) → va_S A H0 H1 locs1 → W p l e R0 s m args below meth c H1 locs1 (cells + mc) (slots + ms) Q (F0 m (pc + 3) ls (rest))) : W p l e R0 s m args below meth c H locs cells slots Q (F0 m pc ls st0) := by
  obtain ⟨hP9, hD9⟩ := z_pl hP hD is hs hn
  have hP8 := zP_perm z_swap hP9
  have hD8 := zD_perm z_swap hD9
  have hF := z_freeX hD8 hS hA
  refine va_callv hr hS (fun q _ h => hF q h) hF (fun u t H1 locs1 ht hvm hw hB hz1 hk1 hS1 => ?_)
  obtain ⟨hP1, hD1⟩ := hB
  rw [ht] at hP1
  obtain ⟨hP2, hD2⟩ := z_joinX hP8 hD8 hk1 hF hP1 hD1
  exact kk u H1 locs1 hw (zP_perm z_swap hP2) (zD_perm z_swap hD2) hS1
theorem z_callvU {S : Type} {post : S → Prop} {w1 : S → va_W} (hwc : wc = C ++ T) (hr : va_Run p l e R0 s m args below meth c H locs cells slots mc ms (F0 m pc ls st0) rest (va_Qv post (fun u t => va_P G.1 vwCl (w1 u) t.heap ∧ va_D (va_A wc H.size) (w1 u)) (va_A wc H.size) a) (va_A wc H.size))
    (hP : va_P G.1 vwCl (E ++ T) H) (hD : va_D A (E ++ T)) (hS : va_S A H0 H locs) (hA : ∀ q, H0.size ≤ q → A q) (is : List Nat) (hs : is.map (fun i => E[i]?) = (R ++ C).map some) (hn : va_nd is = true)
    (kk : ∀ (u : S) (H1 : Heap) (locs1 : List Loc), post u → va_P G.1 vwCl (R ++ w1 u) H1 → va_D A (R ++ w1 u) → va_S A H0 H1 locs1 → W p l e R0 s m args below meth c H1 locs1 (cells + mc) (slots + ms) Q (F0 m (pc + 3) ls (rest))) : W p l e R0 s m args below meth c H locs cells slots Q (F0 m pc ls st0) := by
  subst hwc
  obtain ⟨hP9, hD9⟩ := z_pl hP hD is hs hn
  rw [List.append_assoc] at hP9 hD9
  have hF := z_freeX hD9 hS hA
  refine va_callv hr hS (fun q _ h => hF q h) hF (fun u t H1 locs1 ht hvm hw hB hz1 hk1 hS1 => ?_)
  obtain ⟨hP1, hD1⟩ := hB
  rw [ht] at hP1
  obtain ⟨hP2, hD2⟩ := z_joinX hP9 hD9 hk1 hF hP1 hD1
  exact kk u H1 locs1 hw hP2 hD2 hS1

end
theorem zcell_q {cA : ClassId} {n : Nat} {f g : Nat → Option Nat} (h : ∀ j, j < n → f j = g j) : vp_cell cA (n, .inr (.inr (.inr (.inr f)))) = vp_cell cA (n, .inr (.inr (.inr (.inr g)))) := by
  show arrV cA n (fun j => va_rf (f j)) = arrV cA n (fun j => va_rf (g j))
  unfold arrV
  have e : (fun j : Fin n => va_rf (f j.val)) = (fun j : Fin n => va_rf (g j.val)) := by
    funext j
    rw [h j.val j.isLt]
  rw [e]
theorem zP_arrq {D : va_G} {cl : List vw_C} {ws ws' : va_W} {H : Heap} (hP : va_P D cl ws H) (q : Nat) {a : Nat} {cA : ClassId} {n : Nat} {f g : Nat → Option Nat} (he : ws[q]? = some (a, .inl (cA, n, .inr (.inr (.inr (.inr f)))))) (h : ∀ j, j < n → f j = g j) (hw : ws.set q (a, .inl (cA, n, .inr (.inr (.inr (.inr g))))) = ws') : va_P D cl ws' H := by
  subst hw
  intro k x hk
  rw [List.getElem?_set] at hk
  by_cases hq : q = k
  · subst hq
    rw [if_pos rfl] at hk
    split at hk
    · cases hk
      have h1 := hP q _ he
      show H[a]? = some (vp_cell cA _)
      rw [← zcell_q h]
      exact h1
    · cases hk
  · rw [if_neg hq] at hk
    exact hP k x hk
/-- a state of the class: its numbers, its rows (actions, done, refusals, times), how many times -/
abbrev zSt : Type := zF × (Nat → zF) × Nat
def zGs (G : zG) (a : Nat → Nat) (S : zSt) : va_W := [((a 0), .inr (4, [.int (S.1 0), .int (S.1 1), .int (S.1 2), .int (S.1 3), .int (S.1 4), .int (S.1 5), .int (S.1 6), .int (S.1 7), .int (S.1 8), .int (S.1 9), .ref (a 1), .ref (a 2), .ref (a 3), .ref (a 4)])), ((a 1), .inr (2, [.ref (a 5), .int (nI 16)])), ((a 5), .inl (G.2.1 0, 16, .inl (S.2.1 0))), ((a 2), .inr (2, [.ref (a 6), .int (nI 16)])), ((a 6), .inl (G.2.1 0, 16, .inl (S.2.1 1))), ((a 3), .inr (2, [.ref (a 7), .int (nI 7)])), ((a 7), .inl (G.2.1 0, 7, .inl (S.2.1 2))), ((a 4), .inr (2, [.ref (a 8), .int (nI S.2.2)])), ((a 8), .inl (G.2.1 0, 30, .inl (S.2.1 3)))]
def zSv6 (G : zG) (ya : Nat) (p : Nat → Nat → Nat) (SS : Nat → zSt) : va_W := (ya, .inl (G.2.1 1, 6, .inr (.inr (.inr (.inr (fun i9 => some (p i9 0))))))) :: (zGs G (p 0) (SS 0) ++ (zGs G (p 1) (SS 1) ++ (zGs G (p 2) (SS 2) ++ (zGs G (p 3) (SS 3) ++ (zGs G (p 4) (SS 4) ++ zGs G (p 5) (SS 5))))))
def shS (SS : Nat → zSt) : Nat → zSt := fun i => if i < 5 then SS (i + 1) else SS 0
def svK (sc : Nat) (SS : Nat → zSt) (S : zSt) : Nat × (Nat → zSt) := if sc = 6 then (6, va_up (shS SS) 5 S) else (sc + 1, va_up SS sc S)
def rotp (p : Nat → Nat → Nat) : Nat → Nat → Nat := fun i => if i < 5 then p (i + 1) else p 0
end ZPERM

