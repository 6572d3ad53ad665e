/-! ===== the law's words: its worlds, contracts of its own methods, calls over worlds that aren't opened ===== -/
section LAW0
/-- where the class's objects lie: the state's, the ear's; x, y1, y2, ya, tr, tv -/
abbrev zAd : Type := (Nat → Nat) × (Nat → Nat) × Nat × Nat × Nat × Nat × Nat × Nat
/-- the class: the saves' places; how many, and what; the state; the ear; the text -/
abbrev zDc : Type := (Nat → Nat → Nat) × (Nat × (Nat → zSt)) × zSt × zE × (Nat × zF)
def q4 (f0 f1 f2 f3 : zF) : Nat → zF
  | 0 => f0
  | 1 => f1
  | 2 => f2
  | _ => f3
def wCl (G : zG) (ad : zAd) (D : zDc) : va_W := [(ad.2.2.1, .inr (5, [.ref (ad.1 0), .ref ad.2.2.2.1, .ref ad.2.2.2.2.1, .ref (ad.2.1 0)])), (ad.2.2.2.1, .inr (3, [.ref ad.2.2.2.2.2.1, .int (nI D.2.1.1)])), ((ad.1 0), .inr (4, [.int (D.2.2.1.1 0), .int (D.2.2.1.1 1), .int (D.2.2.1.1 2), .int (D.2.2.1.1 3), .int (D.2.2.1.1 4), .int (D.2.2.1.1 5), .int (D.2.2.1.1 6), .int (D.2.2.1.1 7), .int (D.2.2.1.1 8), .int (D.2.2.1.1 9), .ref (ad.1 1), .ref (ad.1 2), .ref (ad.1 3), .ref (ad.1 4)])), ((ad.1 1), .inr (2, [.ref (ad.1 5), .int (nI 16)])), ((ad.1 5), .inl (G.2.1 0, 16, .inl (D.2.2.1.2.1 0))), ((ad.1 2), .inr (2, [.ref (ad.1 6), .int (nI 16)])), ((ad.1 6), .inl (G.2.1 0, 16, .inl (D.2.2.1.2.1 1))), ((ad.1 3), .inr (2, [.ref (ad.1 7), .int (nI 7)])), ((ad.1 7), .inl (G.2.1 0, 7, .inl (D.2.2.1.2.1 2))), ((ad.1 4), .inr (2, [.ref (ad.1 8), .int (nI D.2.2.1.2.2)])), ((ad.1 8), .inl (G.2.1 0, 30, .inl (D.2.2.1.2.1 3))), ((ad.2.1 0), .inr (0, [.ref (ad.2.1 1), .ref (ad.2.1 2), .int D.2.2.2.1.1.1, .int D.2.2.2.1.1.2.1, .int D.2.2.2.1.1.2.2.1, .int D.2.2.2.1.1.2.2.2])), ((ad.2.1 1), .inr (2, [.ref (ad.2.1 3), .int (nI D.2.2.2.1.2.1.1)])), ((ad.2.1 3), .inl (G.2.1 0, 30, .inl D.2.2.2.1.2.1.2)), ((ad.2.1 2), .inr (2, [.ref (ad.2.1 4), .int (nI D.2.2.2.1.2.2.1)])), ((ad.2.1 4), .inl (G.2.1 0, 30, .inl D.2.2.2.1.2.2.2)), (ad.2.2.2.2.1, .inr (1, [.ref ad.2.2.2.2.2.2.1])), (ad.2.2.2.2.2.2.1, .inr (2, [.ref ad.2.2.2.2.2.2.2, .int (nI D.2.2.2.2.1)])), (ad.2.2.2.2.2.2.2, .inl (G.2.1 0, 60, .inl D.2.2.2.2.2))] ++ zSv6 G ad.2.2.2.2.2.1 D.1 D.2.1.2
theorem wCl_0 (G : zG) (ad : zAd) (D : zDc) : (wCl G ad D)[0]? = some (ad.2.2.1, .inr (5, [.ref (ad.1 0), .ref ad.2.2.2.1, .ref ad.2.2.2.2.1, .ref (ad.2.1 0)])) := rfl
/-- which thrown class no catch of another one takes -/
def zNc (U : State) : Prop := va_Nc "java/lang/IllegalStateException" "java/lang/IllegalArgumentException" U ∧ va_Nc "java/lang/IllegalArgumentException" "java/lang/IndexOutOfBoundsException" U
theorem zNc.alike {u U : State} (hvm : u.vm.Alike U.vm) (h : zNc u) : zNc U := ⟨va_Nc.moved hvm h.1, va_Nc.moved hvm h.2⟩
section
variable {p : Program} {l : Launch} {e : Env} {R0 : Room} {s : State} {m : MethodId} {args : Array Value} {below : List Frame} {meth : Method} {c : Code} {H : Heap} {locs : List Loc} {cells slots : Nat} {Q : State → Prop}
variable {cc : ByteArray} {pc : Nat} {ls : Array Slot} {rest st0 : List Value} {G : zG} {A : Nat → Prop} {R C : va_W} {H0 : Heap} {mc ms : Nat} {a : Array Value}
theorem z_calliR {S : Type} {post : Int32 → S → Prop} {w1 : S → va_W} (hr : va_Run p l e R0 s m args below meth c H locs cells slots mc ms (F0 m pc ls st0) rest (va_Qi post (fun u t => va_P G.1 vwCl (w1 u) t.heap ∧ va_D (va_A C H.size) (w1 u)) (va_A C H.size) a) (va_A C H.size))
    (hP : va_P G.1 vwCl (R ++ C) H) (hD : va_D A (R ++ C)) (hS : va_S A H0 H locs) (hA : ∀ q, H0.size ≤ q → A q)
    (kk : ∀ (r : Int32) (u : S) (H1 : Heap) (locs1 : List Loc), post r u → va_P G.1 vwCl (R ++ w1 u) H1 → va_D A (R ++ w1 u) → va_S A H0 H1 locs1 → W p l e R0 s m args below meth c H1 locs1 (cells + mc) (slots + ms) Q (F0 m (pc + 3) ls (.int r :: rest))) : W p l e R0 s m args below meth c H locs cells slots Q (F0 m pc ls st0) := by
  have hF := z_freeX hD hS hA
  refine va_calli hr hS (fun q _ h => hF q h) hF (fun r u t H1 locs1 ht hvm hw hB hz1 hk1 hS1 => ?_)
  obtain ⟨hP1, hD1⟩ := hB
  rw [ht] at hP1
  obtain ⟨hP2, hD2⟩ := z_joinX hP hD hk1 hF hP1 hD1
  exact kk r u H1 locs1 hw hP2 hD2 hS1
theorem z_calliL {S : Type} {post : Int32 → S → Prop} {w1 : S → va_W} (hr : va_Run p l e R0 s m args below meth c H locs cells slots mc ms (F0 m pc ls st0) rest (va_Qi post (fun u t => va_P G.1 vwCl (w1 u) t.heap ∧ va_D (va_A C H.size) (w1 u)) (va_A C H.size) a) (va_A C H.size))
    (hP : va_P G.1 vwCl (C ++ R) H) (hD : va_D A (C ++ R)) (hS : va_S A H0 H locs) (hA : ∀ q, H0.size ≤ q → A q)
    (kk : ∀ (r : Int32) (u : S) (H1 : Heap) (locs1 : List Loc), post r u → va_P G.1 vwCl (w1 u ++ R) H1 → va_D A (w1 u ++ R) → va_S A H0 H1 locs1 → W p l e R0 s m args below meth c H1 locs1 (cells + mc) (slots + ms) Q (F0 m (pc + 3) ls (.int r :: rest))) : W p l e R0 s m args below meth c H locs cells slots Q (F0 m pc ls st0) :=
  z_calliR hr (zP_perm List.perm_append_comm hP) (zD_perm List.perm_append_comm hD) hS hA (fun r u H1 locs1 h1 h2 h3 h4 => kk r u H1 locs1 h1 (zP_perm List.perm_append_comm h2) (zD_perm List.perm_append_comm h3) h4)
end
end LAW0

