/-! ===== what the law's methods say of the class: what a frame brings, undo, the script's cell ===== -/
section PW
theorem t_le {x y : Int32} {i j : Int} (hx : x.toInt = i) (hy : y.toInt = j) : x ≤ y ↔ i ≤ j := by
  rw [Int32.le_iff_toInt_le, hx, hy]
theorem t_lt {x y : Int32} {i j : Int} (hx : x.toInt = i) (hy : y.toInt = j) : x < y ↔ i < j := by
  rw [Int32.lt_iff_toInt_lt, hx, hy]
theorem t_eq {x y : Int32} {i j : Int} (hx : x.toInt = i) (hy : y.toInt = j) : x = y ↔ i = j := ⟨fun h => by rw [← hx, ← hy, h], fun h => Int32.toInt_inj.mp (by rw [hx, hy, h])⟩
/-- k undos lead back to the state that n, N tell of -/
def Ud (n : Nat) (N : zN) (k : Nat) (D : zDc) : Prop := ∃ F : Nat → zSt, tp D k F ∧ (∀ i, i < k → ∃ (m : Nat) (M : zN), m ≤ 9000 ∧ vw (F i) M ∧ bnd m M) ∧ vw (if k = 0 then D.2.2.1 else F (k - 1)) N ∧ bnd n N ∧ n ≤ 9000
theorem Ud_0 {n : Nat} {D : zDc} {N : zN} (h : J n D N) : Ud n N 0 D := ⟨fun _ => D.2.2.1, ⟨Nat.zero_le _, fun i hi => absurd hi (Nat.not_lt_zero i)⟩, fun i hi => absurd hi (Nat.not_lt_zero i), by rw [if_pos rfl]; exact h.1, h.2.1, h.2.2.2.2⟩
theorem Ud_J {n m : Nat} {D : zDc} {N M : zN} (h : Ud n N 0 D) (hJ : J m D M) : J n D N := by
  obtain ⟨F, h1, h2, h3, h4, h5⟩ := h
  rw [if_pos rfl] at h3
  exact ⟨h3, h4, hJ.2.2.1, hJ.2.2.2.1, h5⟩
theorem Ud_sm {n k : Nat} {D D' : zDc} {N : zN} (h : Ud n N k D) (hs : sm D D') : Ud n N k D' := by
  obtain ⟨F, h1, h2, h3, h4, h5⟩ := h
  refine ⟨F, sm_tp h1 hs, h2, ?_, h4, h5⟩
  rw [hs.2.1]
  exact h3
theorem Ud_pu {n k m : Nat} {D D' : zDc} {N M : zN} (h : Ud n N k D) (hk : k ≤ 5) (hJ : J m D M) (hp : pu D D') : Ud n N (k + 1) D' := by
  obtain ⟨F, h1, h2, h3, h4, h5⟩ := h
  refine ⟨psh D.2.2.1 F, hp k F hk h1, fun i hi => ?_, ?_, h4, h5⟩
  · by_cases h0 : i = 0
    · subst h0
      exact ⟨m, M, hJ.2.2.2.2, hJ.1, hJ.2.1⟩
    · obtain ⟨a, b, c1, c2, c3⟩ := h2 (i - 1) (by omega)
      refine ⟨a, b, c1, ?_, c3⟩
      unfold psh
      rw [if_neg h0]
      exact c2
  · rw [if_neg (by omega), show k + 1 - 1 = k by omega]
    exact h3
theorem Ud_po {n k m : Nat} {D D' : zDc} {N M : zN} {F : Nat → zSt} (h2 : ∀ i, i < k + 1 → ∃ (m : Nat) (M : zN), m ≤ 9000 ∧ vw (F i) M ∧ bnd m M) (h3 : vw (F k) N) (h4 : bnd n N) (h5 : n ≤ 9000) (hp : po D D' k F) : (∃ m M, J m D' M) ∧ Ud n N k D' := by
  obtain ⟨p1, p2, p3, p4⟩ := hp
  obtain ⟨m, M, q1, q2, q3⟩ := h2 0 (by omega)
  refine ⟨⟨m, M, by rw [p1]; exact q2, q3, p3, p4, q1⟩, fun i => F (i + 1), p2, fun i hi => h2 (i + 1) (by omega), ?_, h4, h5⟩
  by_cases h0 : k = 0
  · subst h0
    rw [if_pos rfl, p1]
    exact h3
  · rw [if_neg h0]
    show vw (F (k - 1 + 1)) N
    rw [show k - 1 + 1 = k by omega]
    exact h3
theorem Ud_tp {n k : Nat} {D : zDc} {N : zN} (h : Ud n N (k + 1) D) : ∃ F : Nat → zSt, tp D (k + 1) F ∧ (∀ i, i < k + 1 → ∃ (m : Nat) (M : zN), m ≤ 9000 ∧ vw (F i) M ∧ bnd m M) ∧ vw (F k) N ∧ bnd n N ∧ n ≤ 9000 := by
  obtain ⟨F, h1, h2, h3, h4, h5⟩ := h
  rw [if_neg (by omega), show k + 1 - 1 = k by omega] at h3
  exact ⟨F, h1, h2, h3, h4, h5⟩
/-- what is remembered, held, left -/
def hoV (N : zN) : Nat := if rem N then N 5 else 0
def reV (N : zN) : Int32 := if rem N then nI (N 3) else -1
def tkV (N : zN) : Int32 := if rem N then nI (62 - N 6) else -1
theorem hoV_same {N M : zN} (h6 : M 6 = N 6) (h5 : M 5 = N 5) : hoV M = hoV N := by
  unfold hoV rem
  rw [h6, h5]
theorem reV_same {N M : zN} (h6 : M 6 = N 6) (h3 : M 3 = N 3) : reV M = reV N := by
  unfold reV rem
  rw [h6, h3]
theorem rem_1 {M : zN} (h : M 6 = 1) : rem M := ⟨by omega, by omega⟩
theorem hoV_r {M : zN} (h : rem M) : hoV M = M 5 := if_pos h
theorem reV_r {M : zN} (h : rem M) : reV M = nI (M 3) := if_pos h
theorem tkV_r {M : zN} (h : rem M) : tkV M = nI (62 - M 6) := if_pos h
theorem hoV_n {M : zN} (h : ¬ rem M) : hoV M = 0 := if_neg h
theorem reV_n {M : zN} (h : ¬ rem M) : reV M = -1 := if_neg h
theorem tkV_n {M : zN} (h : ¬ rem M) : tkV M = -1 := if_neg h
/-- what a frame brings, in three cases: refused, held, pressed -/
def frR (N M : zN) (c : Nat) (V : Int32) : Prop := ∃ k, 1 ≤ k ∧ k ≤ 5 ∧ V = nI k ∧ rfs M = rfs N + 1 ∧ M 7 = N 7 ∧ M 6 = N 6 ∧ M 3 = N 3 ∧ M 5 = N 5 ∧ M (32 + c) = N (32 + c)
def frH (N M : zN) (a c t : Nat) (V : Int32) : Prop := V = -1 ∧ rem N ∧ c = N 3 ∧ a = N 2 ∧ rfs M = rfs N ∧ M 7 = N 7 ∧ M 6 = 1 ∧ M 3 = c ∧ M 4 = t ∧ M 5 = N 5 + 1 ∧ M (32 + c) = N (32 + c) + (if N (16 + c) = 2 ∧ (N 5 + 1) % 2 = 0 then 1 else 0)
def frP (N M : zN) (a c t : Nat) (V : Int32) : Prop := V = 0 ∧ a = N 2 ∧ rfs M = rfs N ∧ M 7 = N 7 + 1 ∧ M 6 = 1 ∧ M 3 = c ∧ M 4 = t ∧ M 5 = 0 ∧ M (32 + c) = N (32 + c) + (if N (16 + c) = 0 then 0 else 1)
def frC (N M : zN) : Prop := M 8 = N 8 + 1 ∧ M 0 = N 0 ∧ M 2 = N 2 ∧ 1 ≤ M 1 ∧ M 1 ≤ 10 ∧ (N 1 ≤ 10 - N 0 → M 1 ≤ N 1 + 1 ∧ N 1 ≤ M 1 + 1)
theorem fr_sum {N : zN} {n a c t st : Nat} (hb : bnd n N) (ha : a < 8) (hc : c < 16) (ht : t < 2) :
    ∃ (V : Int32) (M : zN), frV N a c t st = (V, M) ∧ frC N M ∧ (frR N M c V ∨ frH N M a c t V ∨ frP N M a c t V) := by
  obtain ⟨⟨b0, b1, b2, b3, b4, b5, b6, b7, b8, b9, b10⟩, ba, bd, bl⟩ := id hb
  have ga := fun ms => gaN_bd (ms := ms) b0 b1 b2
  rcases fr_cases (st := st) hb ha hc ht with ⟨k, k1, k2, e, -⟩ | ⟨e, er, -, ea, ec, et⟩ | ⟨e, -, ea⟩
  · have h1 : rkN N (frO N a c t st).1 k 1 = gaN (frO N a c t st).1 (N 0) (N 1) := (rk_at (by omega)).trans hc_1
    have hr : rfs (rkN N (frO N a c t st).1 k) = rfs N + 1 := (bnd_rk (ms := (frO N a c t st).1) hb k1 (by omega) bl).2
    refine ⟨_, _, e, ⟨(rk_at (by omega)).trans hc_8, (rk_at (by omega)).trans (hc_at (by omega) (by omega)), (rk_at (by omega)).trans (hc_at (by omega) (by omega)), ?_, ?_, ?_⟩, Or.inl ⟨k, k1, k2, rfl, hr, (rk_at (by omega)).trans (hc_at (by omega) (by omega)), (rk_at (by omega)).trans (hc_at (by omega) (by omega)), (rk_at (by omega)).trans (hc_at (by omega) (by omega)), (rk_at (by omega)).trans (hc_at (by omega) (by omega)), (rk_at (by omega)).trans (hc_at (by omega) (by omega))⟩⟩
    · rw [h1]; exact (ga _).1
    · rw [h1]; exact (ga _).2.1
    · rw [h1]; exact (ga _).2.2
  · have h1 : hoN N (frO N a c t st).1 1 = gaN (frO N a c t st).1 (N 0) (N 1) := by rw [ho_x (by omega)]; rfl
    have hr : rfs (hoN N (frO N a c t st).1) = rfs N := (bnd_ho (ms := (frO N a c t st).1) hb bl).2
    have hd : hoN N (frO N a c t st).1 (32 + c) = N (32 + c) + (if N (16 + c) = 2 ∧ (N 5 + 1) % 2 = 0 then 1 else 0) := by rw [ec]; exact hoN_d
    refine ⟨_, _, e, ⟨?_, ?_, ?_, ?_, ?_, ?_⟩, Or.inr (Or.inl ⟨rfl, er, ec, ea, hr, ?_, ?_, ?_, ?_, ?_, hd⟩)⟩
    · rw [ho_x (by omega)]; rfl
    · rw [ho_x (by omega)]; rfl
    · rw [ho_x (by omega)]; rfl
    · rw [h1]; exact (ga _).1
    · rw [h1]; exact (ga _).2.1
    · rw [h1]; exact (ga _).2.2
    · rw [ho_x (by omega)]; rfl
    · rw [ho_x (by omega)]; rfl
    · rw [ho_x (by omega), ec]; rfl
    · rw [ho_x (by omega), et]; rfl
    · rw [ho_x (by omega)]; rfl
  · have h1 : prN N (frO N a c t st).1 c t 1 = gaN (frO N a c t st).1 (N 0) (N 1) := by rw [pr_x (by omega)]; rfl
    have hr : rfs (prN N (frO N a c t st).1 c t) = rfs N := (bnd_pr (ms := (frO N a c t st).1) hb (show c ≤ 15 by omega) (show t ≤ 1 by omega) bl).2
    refine ⟨_, _, e, ⟨?_, ?_, ?_, ?_, ?_, ?_⟩, Or.inr (Or.inr ⟨rfl, ea, hr, ?_, ?_, ?_, ?_, ?_, pr_d⟩)⟩
    · rw [pr_x (by omega)]; rfl
    · rw [pr_x (by omega)]; rfl
    · rw [pr_x (by omega)]; rfl
    · rw [h1]; exact (ga _).1
    · rw [h1]; exact (ga _).2.1
    · rw [h1]; exact (ga _).2.2
    · rw [pr_x (by omega)]; rfl
    · rw [pr_x (by omega)]; rfl
    · rw [pr_x (by omega)]; rfl
    · rw [pr_x (by omega)]; rfl
    · rw [pr_x (by omega)]; rfl
/-- heard and to this receiver: held or pressed -/
theorem fr_two {N : zN} {a c t st : Nat} (ha : a < 8) (hc : c < 16) (ht : t < 2) (hb : ¬ bad N st) (e : a = N 2) : (frV N a c t st).1 = if rem N ∧ c = N 3 ∧ t = N 4 then -1 else 0 := by
  obtain ⟨w1, w2, w3, w4⟩ := zk_wd a ha c hc t ht
  unfold frV frO
  rw [if_neg hb]
  show (heN N false 7 (wd a c t)).1 = _
  unfold heN
  rw [if_neg (show ¬ (7 : Nat) = 8 by omega), if_neg (show ¬ ¬ (7 : Nat) = 7 from fun z => z rfl), if_neg (show ¬ ¬ wd a c t / 64 = N 2 from fun y => y (by omega)), w2, w3]
  split
  · rfl
  · rfl
theorem fr_all {N : zN} {n a c t st : Nat} (hb : bnd n N) : -1 ≤ (frV N a c t st).1 ∧ (frV N a c t st).2 2 = N 2 ∧ (frV N a c t st).2 8 = N 8 + 1 ∧ (frV N a c t st).2 0 = N 0 := by
  unfold frV
  refine he_ge hb ?_
  unfold frO
  split
  · exact Or.inl rfl
  · exact Or.inr (Or.inr (Or.inr (Or.inr (Or.inr rfl))))
/-- a frame to this receiver that isn't heard: refused, the gain as foretold -/
theorem fr_bad {N M : zN} {n i : Nat} (hb : bnd n M) (h : bad M 10) (h0 : M 0 = N 0) (h1 : M 1 = gnN N i) : ∃ k, 1 ≤ k ∧ k ≤ 5 ∧ (frV M (M 2) 0 0 10).1 = nI k ∧ (frV M (M 2) 0 0 10).2 1 = gnN N (i + 1) := by
  have b1 := hb.1.2.1
  have b3 := hb.1.2.2.2.1
  rcases fr_cases (st := 10) hb (show M 2 < 8 by omega) (show 0 < 16 by omega) (show 0 < 2 by omega) with ⟨k, k1, k2, e, -⟩ | ⟨e, -, e2, -⟩ | ⟨e, e2, -⟩
  · refine ⟨k, k1, k2, by rw [e], ?_⟩
    have hm : (frO M (M 2) 0 0 10).1 = true := by rw [fr_ms]; exact decide_eq_true h
    rw [e, hm]
    refine gn_step h0 h1 ?_ k1
    unfold bad at h
    rw [h0, h1] at h
    omega
  · exact absurd h e2
  · exact absurd h e2
theorem paN_at {N : zN} {x i : Nat} (h : i ≠ 6) : paN N x i = N i := va_upN h
theorem paN_6 {N : zN} {x : Nat} : paN N x 6 = if N 6 = 0 then 0 else N 6 + x := va_upS
def bN (a c t i : Nat) : Nat := wd a c t / 2 ^ (8 - i) % 2
set_option maxRecDepth 100000 in
theorem bits_ok : ∀ a, a < 8 → ∀ c, c < 16 → ∀ t, t < 2 → (0 + bN a c t 0 + bN a c t 1 + bN a c t 2 + bN a c t 3 + bN a c t 4 + bN a c t 5 + bN a c t 6 + bN a c t 7 + bN a c t 8) % 2 = 0 ∧ (2 * (2 * (2 * (2 * (2 * (2 * (2 * (2 * (2 * 0 + bN a c t 0) + bN a c t 1) + bN a c t 2) + bN a c t 3) + bN a c t 4) + bN a c t 5) + bN a c t 6) + bN a c t 7) + bN a c t 8) / 2 = 32 * a + 2 * c + t := by decide +kernel
theorem bN_lt (a c t i : Nat) : bN a c t i < 2 := Nat.mod_lt _ (by omega)
/-- a method that reads the script -/
def zPs (av : List Value) (G : zG) (b L : Nat) (xs : Nat → Int32) (sz : Nat) : Array Value → State → Prop := va_Pc av (fun U => U.heap.size = sz ∧ b < sz ∧ va_X b L xs U U.heap)
theorem zPs_blind {av : List Value} {G : zG} {b L : Nat} {xs : Nat → Int32} {sz : Nat} : FrameBlind (zPs av G b L xs sz) := fun a U g mk q => ⟨q.1, q.2.1, q.2.2.1, va_X.moved (u := U) (U := U.calling g mk a) (Vm.Alike.refl U.vm) q.2.2.2⟩
theorem zSs {s : State} {H : Heap} {locs : List Loc} {As : List Value} {G : zG} {A : Nat → Prop} {b L : Nat} {xs : Nat → Int32} (hX : va_X b L xs s s.heap) (hbl : b < s.heap.size) (hbA : ¬ A b) (hS : va_S A s.heap H locs) : PreS s H (zPs As G b L xs H.size) As :=
  ⟨zPs_blind, fun U hU hW => ⟨rfl, by rw [hU], Nat.lt_of_lt_of_le hbl hS.1, by rw [hU]; exact va_X.moved hW.alike (va_X.kept hX (hS.2.1 b hbl hbA))⟩⟩
abbrev zMs (l : Launch) (y : MethodName) (ws : List Cond) (rm : Room) (av : List Value) (G : zG) (b L : Nat) (xs : Nat → Int32) (post : Int32 → Unit → Prop) (sz : Nat) : Prop := Met l y ws rm (zPs av G b L xs sz) (zQi G post (fun _ => []) (va_A [] sz)) 0 0 (va_A [] sz)
theorem zMs_of {l : Launch} {y : MethodName} {ws ws' : List Cond} {rm : Room} {av : List Value} {G : zG} {b L : Nat} {xs : Nat → Int32} {post : Int32 → Unit → Prop} {sz : Nat} {cc : ByteArray} {maxL : Nat} {ret : Option FieldType}
    (hy : plainName y.cls = true) (hw : ws = Cond.code y cc maxL ret :: ws') (hn : (lg_sl av).length ≤ maxL)
    (body : ∀ (p : Program) (e : Env) (s : State) (m : MethodId) (args : Array Value) (below : List Frame) (meth : Method) (c : Code) (A : Nat → Prop) (ls : Array Slot), p.tables.exec = Jvm.exec → c.code = cc → meth.sig.returnType = ret → c.maxLocals = maxL → (∀ w ∈ ws, w.before args s = true) → s.vm.findClass y.cls = some m.cls → meth.locks = false → va_X b L xs s s.heap → b < s.heap.size → ¬ A b → va_S A s.heap s.heap [] → (∀ q : Nat, s.heap.size ≤ q → A q) → lv_has ls maxL (lv_args 0 av) →
      W p l e rm s m args below meth c s.heap [] 0 0 (MQ below (zQi G post (fun _ => []) A) args s 0 0 A) (F0 m 0 ls [])) : zMs l y ws rm av G b L xs post sz := by
  refine Met.ofW (cc := cc) (maxL := maxL) (ret := ret) hy hw ?_
  intro p e s m args below meth c s₁ B hml hv
  obtain ⟨rfl, hsz, hbl, hX⟩ := hv
  have hl := lv_entry av (n := maxL) hn
  rw [lg_entry_eq]
  subst hsz
  refine body p e s m av.toArray below meth c (va_A [] s.heap.size) _ B.exec B.bytes B.returns hml (atoms_spec (ws := ws) B.pre) (findClass_of_methodNamed B.named) B.notSynchronized hX hbl ?_ va_S.rf (fun q h => Or.inr h) hl
  rintro (⟨k, e9, h⟩ | h)
  · cases h
  · exact absurd hbl (Nat.not_lt.mpr h)
end PW
