/-! ===== the law's methods: calls over the class's whole world ===== -/
section PL
variable {p : Program} {l : Launch} {e : Env} {R0 : Room} {s : State} {m : MethodId} {args : Array Value} {below : List Frame} {meth : Method} {c : Code} {H : Heap} {locs : List Loc} {cells slots : Nat} {Q : State → Prop}
variable {pc : Nat} {ls : Array Slot} {rest st0 : List Value} {G : zG} {A : Nat → Prop} {ad : zAd} {D : zDc} {H0 : Heap} {mc ms : Nat} {a : Array Value}
/-- a call that changes nothing -/
theorem z_callG {val : Int32} (hr : va_Run p l e R0 s m args below meth c H locs cells slots mc ms (F0 m pc ls st0) rest (va_Qi (fun v D' => v = val ∧ D' = D) (fun u t => va_P G.1 vwCl (wCl G ad u) t.heap ∧ va_D (va_A (wCl G ad D) H.size) (wCl G ad u)) (va_A (wCl G ad D) H.size) a) (va_A (wCl G ad D) H.size))
    (hP : va_P G.1 vwCl (wCl G ad D) H) (hD : va_D A (wCl G ad D)) (hS : va_S A H0 H locs) (hA : ∀ q, H0.size ≤ q → A q)
    (kk : ∀ (H1 : Heap) (locs1 : List Loc), va_P G.1 vwCl (wCl G ad D) H1 → va_D A (wCl G ad D) → va_S A H0 H1 locs1 → W p l e R0 s m args below meth c H1 locs1 (cells + mc) (slots + ms) Q (F0 m (pc + 3) ls (.int val :: rest))) : W p l e R0 s m args below meth c H locs cells slots Q (F0 m pc ls st0) :=
  z_calliR (R := []) (C := wCl G ad D) (w1 := fun u => wCl G ad u) hr hP hD hS hA (fun r u H1 locs1 h1 h2 h3 h4 => by
    obtain ⟨e1, e2⟩ := h1
    subst e1; subst e2
    exact kk H1 locs1 h2 h3 h4)
/-- a call that gives val and another world -/
theorem z_callM {val : Int32} {K : zDc → Prop} (hr : va_Run p l e R0 s m args below meth c H locs cells slots mc ms (F0 m pc ls st0) rest (va_Qi (fun v D' => v = val ∧ K D') (fun u t => va_P G.1 vwCl (wCl G ad u) t.heap ∧ va_D (va_A (wCl G ad D) H.size) (wCl G ad u)) (va_A (wCl G ad D) H.size) a) (va_A (wCl G ad D) H.size))
    (hP : va_P G.1 vwCl (wCl G ad D) H) (hD : va_D A (wCl G ad D)) (hS : va_S A H0 H locs) (hA : ∀ q, H0.size ≤ q → A q)
    (kk : ∀ (D1 : zDc) (H1 : Heap) (locs1 : List Loc), K D1 → va_P G.1 vwCl (wCl G ad D1) H1 → va_D A (wCl G ad D1) → va_S A H0 H1 locs1 → W p l e R0 s m args below meth c H1 locs1 (cells + mc) (slots + ms) Q (F0 m (pc + 3) ls (.int val :: rest))) : W p l e R0 s m args below meth c H locs cells slots Q (F0 m pc ls st0) :=
  z_calliR (R := []) (C := wCl G ad D) (w1 := fun u => wCl G ad u) hr hP hD hS hA (fun r u H1 locs1 h1 h2 h3 h4 => by
    obtain ⟨e1, e2⟩ := h1
    subst e1
    exact kk u H1 locs1 e2 h2 h3 h4)
/-- a call that gives any number and another world -/
theorem z_callA {post : Int32 → zDc → Prop} (hr : va_Run p l e R0 s m args below meth c H locs cells slots mc ms (F0 m pc ls st0) rest (va_Qi post (fun u t => va_P G.1 vwCl (wCl G ad u) t.heap ∧ va_D (va_A (wCl G ad D) H.size) (wCl G ad u)) (va_A (wCl G ad D) H.size) a) (va_A (wCl G ad D) H.size))
    (hP : va_P G.1 vwCl (wCl G ad D) H) (hD : va_D A (wCl G ad D)) (hS : va_S A H0 H locs) (hA : ∀ q, H0.size ≤ q → A q)
    (kk : ∀ (v : Int32) (D1 : zDc) (H1 : Heap) (locs1 : List Loc), post v D1 → va_P G.1 vwCl (wCl G ad D1) H1 → va_D A (wCl G ad D1) → va_S A H0 H1 locs1 → W p l e R0 s m args below meth c H1 locs1 (cells + mc) (slots + ms) Q (F0 m (pc + 3) ls (.int v :: rest))) : W p l e R0 s m args below meth c H locs cells slots Q (F0 m pc ls st0) :=
  z_calliR (R := []) (C := wCl G ad D) (w1 := fun u => wCl G ad u) hr hP hD hS hA (fun r u H1 locs1 h1 h2 h3 h4 => kk r u H1 locs1 h1 h2 h3 h4)
/-- a call of a method without cells -/
theorem z_callN {C : va_W} {val : Int32} (hr : va_Run p l e R0 s m args below meth c H locs cells slots mc ms (F0 m pc ls st0) rest (va_Qi (fun v (_ : Unit) => v = val) (fun _ t => va_P G.1 vwCl [] t.heap ∧ va_D (va_A [] H.size) []) (va_A [] H.size) a) (va_A [] H.size))
    (hP : va_P G.1 vwCl C H) (hD : va_D A C) (hS : va_S A H0 H locs) (hA : ∀ q, H0.size ≤ q → A q)
    (kk : ∀ (H1 : Heap) (locs1 : List Loc), va_P G.1 vwCl C H1 → va_D A C → va_S A H0 H1 locs1 → W p l e R0 s m args below meth c H1 locs1 (cells + mc) (slots + ms) Q (F0 m (pc + 3) ls (.int val :: rest))) : W p l e R0 s m args below meth c H locs cells slots Q (F0 m pc ls st0) :=
  z_calliR (R := C) (C := []) (w1 := fun (_ : Unit) => []) hr (by rw [List.append_nil]; exact hP) (by rw [List.append_nil]; exact hD) hS hA (fun r u H1 locs1 h1 h2 h3 h4 => by
    subst h1
    rw [List.append_nil] at h2 h3
    exact kk H1 locs1 h2 h3 h4)
theorem zP_no {Dg : va_G} {cl : List vw_C} {C : va_W} {H : Heap} (hP : va_P Dg cl C H) : va_P Dg cl [] H := fun k q h => by cases h
theorem zD_no {B : Nat → Prop} {C : va_W} (hD : va_D B C) : va_D B [] := ⟨fun i j q r h => (by cases h), fun k q h => (by cases h)⟩
end PL
/-- a number below k out of any -/
def lowN (v : Int32) (k : Nat) : Nat := v.toBitVec.toNat % 2147483648 % k
theorem lowN_lt {v : Int32} {k : Nat} (h : 0 < k) : lowN v k < k := Nat.mod_lt _ h
theorem low_ok (v : Int32) {k : Nat} (h : 0 < k) (hk : k ≤ 1000) : (v &&& 2147483647) - (v &&& 2147483647) / nI k * nI k = nI (lowN v k) := by
  rw [pk_and v 31 (m := 2147483647) (by decide)]
  exact pk_rem (by have := Nat.mod_lt v.toBitVec.toNat (show 0 < 2 ^ 31 by omega); omega) h (by omega)
theorem andN (v : Int32) {m : Int32} (k : Nat) (hm : m.toBitVec.toNat = 2 ^ k - 1) : ∃ j, j < 2 ^ k ∧ v &&& m = nI j := ⟨_, Nat.mod_lt _ (Nat.two_pow_pos k), pk_and v k hm⟩
theorem by_ok : ∀ a, a < 11 → ∀ b, b < 11 → a ≤ b + 1 → b ≤ a + 1 → ¬ 2 ≤ nI a - nI b ∧ ¬ nI a - nI b ≤ -2 := by decide +kernel
