/-! ===== the law's words: its worlds, contracts of its own methods, calls over worlds that aren't opened ===== -/
section LAW0
/-- where the class's objects lie: the state's, the ear's; x, y1, y2, ya, tr, tv -/
abbrev zAd : Type := (Nat → Nat) × (Nat → Nat) × Nat × Nat × Nat × Nat × Nat × Nat
/-- the class: the saves' places; how many, and what; the state; the ear; the text -/
abbrev zDc : Type := (Nat → Nat → Nat) × (Nat × (Nat → zSt)) × zSt × zE × (Nat × zF)
/-- the reference: saves; its numbers, those put aside; text; light; what is left; place and isWrong; thrown -/
abbrev zRd : Type := (Nat × (Nat → zF)) × (zF × zF) × (Nat × zF) × (Nat × zF) × (Nat × zF) × (Nat × Int32) × Int32
def q4 (f0 f1 f2 f3 : zF) : Nat → zF
  | 0 => f0
  | 1 => f1
  | 2 => f2
  | _ => f3
def wCl (G : zG) (ad : zAd) (D : zDc) : va_W := [(ad.2.2.1, .inr (5, [.ref (ad.1 0), .ref ad.2.2.2.1, .ref ad.2.2.2.2.1, .ref (ad.2.1 0)])), (ad.2.2.2.1, .inr (3, [.ref ad.2.2.2.2.2.1, .int (nI D.2.1.1)])), ((ad.1 0), .inr (4, [.int (D.2.2.1.1 0), .int (D.2.2.1.1 1), .int (D.2.2.1.1 2), .int (D.2.2.1.1 3), .int (D.2.2.1.1 4), .int (D.2.2.1.1 5), .int (D.2.2.1.1 6), .int (D.2.2.1.1 7), .int (D.2.2.1.1 8), .int (D.2.2.1.1 9), .ref (ad.1 1), .ref (ad.1 2), .ref (ad.1 3), .ref (ad.1 4)])), ((ad.1 1), .inr (2, [.ref (ad.1 5), .int (nI 16)])), ((ad.1 5), .inl (G.2.1 0, 16, .inl (D.2.2.1.2.1 0))), ((ad.1 2), .inr (2, [.ref (ad.1 6), .int (nI 16)])), ((ad.1 6), .inl (G.2.1 0, 16, .inl (D.2.2.1.2.1 1))), ((ad.1 3), .inr (2, [.ref (ad.1 7), .int (nI 7)])), ((ad.1 7), .inl (G.2.1 0, 7, .inl (D.2.2.1.2.1 2))), ((ad.1 4), .inr (2, [.ref (ad.1 8), .int (nI D.2.2.1.2.2)])), ((ad.1 8), .inl (G.2.1 0, 30, .inl (D.2.2.1.2.1 3))), ((ad.2.1 0), .inr (0, [.ref (ad.2.1 1), .ref (ad.2.1 2), .int D.2.2.2.1.1.1, .int D.2.2.2.1.1.2.1, .int D.2.2.2.1.1.2.2.1, .int D.2.2.2.1.1.2.2.2])), ((ad.2.1 1), .inr (2, [.ref (ad.2.1 3), .int (nI D.2.2.2.1.2.1.1)])), ((ad.2.1 3), .inl (G.2.1 0, 30, .inl D.2.2.2.1.2.1.2)), ((ad.2.1 2), .inr (2, [.ref (ad.2.1 4), .int (nI D.2.2.2.1.2.2.1)])), ((ad.2.1 4), .inl (G.2.1 0, 30, .inl D.2.2.2.1.2.2.2)), (ad.2.2.2.2.1, .inr (1, [.ref ad.2.2.2.2.2.2.1])), (ad.2.2.2.2.2.2.1, .inr (2, [.ref ad.2.2.2.2.2.2.2, .int (nI D.2.2.2.2.1)])), (ad.2.2.2.2.2.2.2, .inl (G.2.1 0, 60, .inl D.2.2.2.2.2))] ++ zSv6 G ad.2.2.2.2.2.1 D.1 D.2.1.2
def wMd (G : zG) (d : Nat → Nat) (M : zRd) : va_W := [((d 0), .inr (6, [.ref (d 1), .ref (d 2), .ref (d 3), .int (nI M.1.1), .ref (d 4), .int (nI M.2.2.1.1), .int M.2.2.2.2.2.2, .ref (d 5), .int (nI M.2.2.2.1.1), .ref (d 6), .int (nI M.2.2.2.2.1.1), .int (nI M.2.2.2.2.2.1.1), .int M.2.2.2.2.2.1.2])), ((d 1), .inl (G.2.1 0, 80, .inl M.2.1.1)), ((d 2), .inl (G.2.1 0, 80, .inl M.2.1.2)), ((d 3), .inl (G.2.1 0, 480, .inl (bsv M.1.2))), ((d 4), .inl (G.2.1 0, 60, .inl M.2.2.1.2)), ((d 5), .inl (G.2.1 0, 30, .inl M.2.2.2.1.2)), ((d 6), .inl (G.2.1 0, 30, .inl M.2.2.2.2.1.2))] ++ []
abbrev wO (G : zG) (q : Nat) (ov : Nat → Int64) : va_W := [(q, .inl (G.2.1 2, 1, .inr (.inl ov)))]
theorem wCl_0 (G : zG) (ad : zAd) (D : zDc) : (wCl G ad D)[0]? = some (ad.2.2.1, .inr (5, [.ref (ad.1 0), .ref ad.2.2.2.1, .ref ad.2.2.2.2.1, .ref (ad.2.1 0)])) := rfl
theorem wMd_0 (G : zG) (d : Nat → Nat) (M : zRd) : (wMd G d M)[0]? = some (d 0, .inr (6, [.ref (d 1), .ref (d 2), .ref (d 3), .int (nI M.1.1), .ref (d 4), .int (nI M.2.2.1.1), .int M.2.2.2.2.2.2, .ref (d 5), .int (nI M.2.2.2.1.1), .ref (d 6), .int (nI M.2.2.2.2.1.1), .int (nI M.2.2.2.2.2.1.1), .int M.2.2.2.2.2.1.2])) := rfl
/-- which thrown class no catch of another one takes -/
def zNc (U : State) : Prop := va_Nc "java/lang/IllegalStateException" "java/lang/IllegalArgumentException" U ∧ va_Nc "java/lang/IllegalArgumentException" "java/lang/IndexOutOfBoundsException" U
theorem zNc.alike {u U : State} (hvm : u.vm.Alike U.vm) (h : zNc u) : zNc U := ⟨va_Nc.moved hvm h.1, va_Nc.moved hvm h.2⟩
theorem zX.narrow {A B : Nat → Prop} {U : State} {H : Heap} (hAB : ∀ q, B q → A q) (h : zX A U H) : zX B U H := ⟨h.1.narrow hAB, h.2.1.narrow hAB, h.2.2⟩
def zPe (av : List Value) (G : zG) (wc : va_W) (sz : Nat) : Array Value → State → Prop := va_Pc av (fun U => U.heap.size = sz ∧ va_P G.1 vwCl wc U.heap ∧ zK G U ∧ va_D (fun _ => True) wc ∧ zX (va_A wc sz) U U.heap ∧ zNc U)
theorem zPe_blind {av : List Value} {G : zG} {wc : va_W} {sz : Nat} : FrameBlind (zPe av G wc sz) := fun a U g mk q => ⟨q.1, q.2.1, q.2.2.1, zK.call q.2.2.2.1, q.2.2.2.2.1, zX.call q.2.2.2.2.2.1, zNc.alike (u := U) (U := U.calling g mk a) (Vm.Alike.refl U.vm) q.2.2.2.2.2.2⟩
theorem zSe {s : State} {H : Heap} {locs : List Loc} {As : List Value} {G : zG} {wc : va_W} {A : Nat → Prop} (hK : zK G s) (hP : va_P G.1 vwCl wc H) (hD : va_D A wc) (hS : va_S A s.heap H locs) (hZ : zX A s s.heap) (hN : zNc s) (hA : ∀ q, s.heap.size ≤ q → A q) : PreS s H (zPe As G wc H.size) As :=
  ⟨zPe_blind, fun U hU hW => by
    obtain ⟨e1, e2, e3, e4, e5, e6⟩ := zPx_pre (av := As) hK hP hD hS hZ hA U hU hW
    exact ⟨e1, e2, e3, e4, e5, e6, zNc.alike hW.alike hN⟩⟩
abbrev zMe {S : Type} (l : Launch) (y : MethodName) (ws : List Cond) (rm : Room) (av : List Value) (G : zG) (wc : va_W) (post : Int32 → S → Prop) (w1 : S → va_W) (sz mc ms : Nat) : Prop := Met l y ws rm (zPe av G wc sz) (zQi G post w1 (va_A wc sz)) mc ms (va_A wc sz)
theorem zMe_of {S : Type} {post : Int32 → S → Prop} {w1 : S → va_W} {l : Launch} {y : MethodName} {ws ws' : List Cond} {rm : Room} {av : List Value} {G : zG} {wc : va_W} {sz mc ms : Nat} {cc : ByteArray} {maxL : Nat} {ret : Option FieldType} {hh : List (Nat × Nat × Nat × Nat)}
    (hy : plainName y.cls = true) (hw : ws = Cond.codeWith y cc maxL ret hh :: ws') (hn : (lg_sl av).length ≤ maxL)
    (body : ∀ (p : Program) (e : Env) (s : State) (m : MethodId) (args : Array Value) (below : List Frame) (meth : Method) (c : Code) (A : Nat → Prop) (ls : Array Slot), p.tables.exec = Jvm.exec → c.code = cc → meth.sig.returnType = ret → c.maxLocals = maxL → (∀ w ∈ ws, w.before args s = true) → s.vm.findClass y.cls = some m.cls → meth.locks = false → meth.name = y.name → zK G s → va_P G.1 vwCl wc s.heap → va_D A wc → va_A wc s.heap.size = A → va_S A s.heap s.heap [] → (∀ q : Nat, s.heap.size ≤ q → A q) → lv_has ls maxL (lv_args 0 av) → s.heap.size = sz → zX A s s.heap → zNc s → c.exceptionTable.toList = tableOf hh →
      W p l e rm s m args below meth c s.heap [] 0 0 (MQ below (zQi G post w1 A) args s mc ms A) (F0 m 0 ls [])) : zMe l y ws rm av G wc post w1 sz mc ms := by
  refine va_MetW (cc := cc) (maxL := maxL) (ret := ret) (hh := hh) hy hw ?_
  intro p e s m args below meth c s₁ B hml hv
  obtain ⟨rfl, hsz, hP, hK, hD0, hZ, hN⟩ := hv
  have hte := vx_table (x := y) B (atoms_spec (ws := ws) B.pre _ (by rw [hw]; exact List.mem_cons_self))
  have hl := lv_entry av (n := maxL) hn
  rw [lg_entry_eq]
  subst hsz
  exact body p e s m av.toArray below meth c (va_A wc s.heap.size) _ B.exec B.bytes B.returns hml (atoms_spec (ws := ws) B.pre) (findClass_of_methodNamed B.named) B.notSynchronized (name_of_methodNamed B.named B.method).1 hK hP hD0.self rfl va_S.rf (fun q h => Or.inr h) hl rfl hZ hN hte
theorem zVx_cons {l : Launch} {y : MethodName} {ws : List Cond} {rm : Room} {Pc Pc' : Array Value → State → Prop} {Qc Qc' : Array Value → State → Outcome → State → Prop} {XC XC' : String → State → State → Prop} {mc ms : Nat} {free free' : Addr → Prop}
    (h : vx_Met l y ws rm Pc Qc XC mc ms free) (hP : ∀ a s, Pc' a s → Pc a s) (hQ : ∀ a s o t, Pc' a s → Qc a s o t → Qc' a s o t) (hX : ∀ a E s t, Pc' a s → XC E s t → XC' E s t) (hf : ∀ q, free q → free' q) : vx_Met l y ws rm Pc' Qc' XC' mc ms free' := by
  intro p e ha hc hk s m args below hb happ hp hk2
  obtain ⟨n, o, h1, h2, h3, h4⟩ := h p e ha hc hk s m args below hb happ (hP _ _ hp) trivial
  refine ⟨n, o, h1, h2, h3, ?_⟩
  rcases h4 with ⟨h4, L, h5, h6⟩ | ⟨q, h4, E, ce, L, g1, g2, g3, g4, g5, g6, g7⟩
  · exact Or.inl ⟨hQ _ _ _ _ hp h4, L, h5, fun q hq => hf _ (h6 q hq)⟩
  · exact Or.inr ⟨q, h4, E, ce, L, hX _ _ _ _ hp g1, g2, g3, g4, g5, g6, fun z hz => hf _ (g7 z hz)⟩
/-- a throw's contract over a larger world -/
theorem zMx_T {l : Launch} {y : MethodName} {ws : List Cond} {rm : Room} {av : List Value} {G : zG} {sz : Nat} {E R C T : va_W} {X : String} (h : zMx zNi l y ws rm av G C X sz) (is : List Nat) (hs : is.map (fun i => E[i]?) = (R ++ C).map some) (hn : va_nd is = true) (is' : List Nat) (hs' : is'.map (fun i => (R ++ C)[i]?) = E.map some) (hn' : va_nd is' = true) : zMx zNi l y ws rm av G (E ++ T) X sz := by
  have hsub : ∀ z, ∀ q, va_A C z q → va_A (E ++ T) z q := fun z => zA_sub (fun q hq => List.mem_append_left _ (z_plm hs q (List.mem_append_right _ hq)))
  refine zVx_cons h (fun a U hp => ?_) (fun a st o t h0 hq => ?_) (fun a E' st t hp hq => ?_) (hsub sz)
  · obtain ⟨e1, e2, e3, e4, e5, e6⟩ := hp
    obtain ⟨p1, d1⟩ := z_pl e3 e5 is hs hn
    exact ⟨e1, e2, zP_right (zP_left p1), e4, zD_right (zD_left d1), zX.narrow (hsub _) e6⟩
  · obtain ⟨⟨r, u, q1, q2, q3⟩, q5⟩ := hq
    exact False.elim q2
  · obtain ⟨e1, e2, e3, e4, e5, e6⟩ := hp
    obtain ⟨u, g1, ⟨g2, g3, g4⟩, g5⟩ := hq
    subst e2
    obtain ⟨p1, d1⟩ := z_pl e3 e5.self is hs hn
    obtain ⟨p3, d3⟩ := z_frame (st := st) (t := t) (zP_perm z_swap p1) (zD_perm z_swap d1) (hsub _) g5 g3 g4
    obtain ⟨p5, d5⟩ := z_pl (zP_perm z_swap p3) (zD_perm z_swap d3) is' hs' hn'
    exact ⟨u, g1, ⟨g2, p5, d5⟩, zF_sub (hsub _) g5⟩
section
variable {p : Program} {l : Launch} {e : Env} {R0 : Room} {s : State} {m : MethodId} {args : Array Value} {below : List Frame} {meth : Method} {c : Code} {H : Heap} {locs : List Loc} {cells slots : Nat} {Q : State → Prop}
variable {cc : ByteArray} {pc : Nat} {ls : Array Slot} {rest st0 : List Value} {G : zG} {A : Nat → Prop} {R C : va_W} {H0 : Heap} {mc ms : Nat} {a : Array Value}
theorem z_calliR {S : Type} {post : Int32 → S → Prop} {w1 : S → va_W} (hr : va_Run p l e R0 s m args below meth c H locs cells slots mc ms (F0 m pc ls st0) rest (va_Qi post (fun u t => va_P G.1 vwCl (w1 u) t.heap ∧ va_D (va_A C H.size) (w1 u)) (va_A C H.size) a) (va_A C H.size))
    (hP : va_P G.1 vwCl (R ++ C) H) (hD : va_D A (R ++ C)) (hS : va_S A H0 H locs) (hA : ∀ q, H0.size ≤ q → A q)
    (kk : ∀ (r : Int32) (u : S) (H1 : Heap) (locs1 : List Loc), post r u → va_P G.1 vwCl (R ++ w1 u) H1 → va_D A (R ++ w1 u) → va_S A H0 H1 locs1 → W p l e R0 s m args below meth c H1 locs1 (cells + mc) (slots + ms) Q (F0 m (pc + 3) ls (.int r :: rest))) : W p l e R0 s m args below meth c H locs cells slots Q (F0 m pc ls st0) := by
  have hF := z_freeX hD hS hA
  refine va_calli hr hS (fun q _ h => hF q h) hF (fun r u t H1 locs1 ht hvm hw hB hz1 hk1 hS1 => ?_)
  obtain ⟨hP1, hD1⟩ := hB
  rw [ht] at hP1
  obtain ⟨hP2, hD2⟩ := z_joinX hP hD hk1 hF hP1 hD1
  exact kk r u H1 locs1 hw hP2 hD2 hS1
theorem z_calliL {S : Type} {post : Int32 → S → Prop} {w1 : S → va_W} (hr : va_Run p l e R0 s m args below meth c H locs cells slots mc ms (F0 m pc ls st0) rest (va_Qi post (fun u t => va_P G.1 vwCl (w1 u) t.heap ∧ va_D (va_A C H.size) (w1 u)) (va_A C H.size) a) (va_A C H.size))
    (hP : va_P G.1 vwCl (C ++ R) H) (hD : va_D A (C ++ R)) (hS : va_S A H0 H locs) (hA : ∀ q, H0.size ≤ q → A q)
    (kk : ∀ (r : Int32) (u : S) (H1 : Heap) (locs1 : List Loc), post r u → va_P G.1 vwCl (w1 u ++ R) H1 → va_D A (w1 u ++ R) → va_S A H0 H1 locs1 → W p l e R0 s m args below meth c H1 locs1 (cells + mc) (slots + ms) Q (F0 m (pc + 3) ls (.int r :: rest))) : W p l e R0 s m args below meth c H locs cells slots Q (F0 m pc ls st0) :=
  z_calliR hr (zP_perm List.perm_append_comm hP) (zD_perm List.perm_append_comm hD) hS hA (fun r u H1 locs1 h1 h2 h3 h4 => kk r u H1 locs1 h1 (zP_perm List.perm_append_comm h2) (zD_perm List.perm_append_comm h3) h4)
theorem z_calllR {S : Type} {post : Int64 → S → Prop} {w1 : S → va_W} (hr : va_Run p l e R0 s m args below meth c H locs cells slots mc ms (F0 m pc ls st0) rest (va_Ql post (fun u t => va_P G.1 vwCl (w1 u) t.heap ∧ va_D (va_A C H.size) (w1 u)) (va_A C H.size) a) (va_A C H.size))
    (hP : va_P G.1 vwCl (R ++ C) H) (hD : va_D A (R ++ C)) (hS : va_S A H0 H locs) (hA : ∀ q, H0.size ≤ q → A q)
    (kk : ∀ (r : Int64) (u : S) (H1 : Heap) (locs1 : List Loc), post r u → va_P G.1 vwCl (R ++ w1 u) H1 → va_D A (R ++ w1 u) → va_S A H0 H1 locs1 → W p l e R0 s m args below meth c H1 locs1 (cells + mc) (slots + ms) Q (F0 m (pc + 3) ls (.long r :: rest))) : W p l e R0 s m args below meth c H locs cells slots Q (F0 m pc ls st0) := by
  have hF := z_freeX hD hS hA
  refine va_calll hr hS (fun q _ h => hF q h) hF (fun r u t H1 locs1 ht hvm hw hB hz1 hk1 hS1 => ?_)
  obtain ⟨hP1, hD1⟩ := hB
  rw [ht] at hP1
  obtain ⟨hP2, hD2⟩ := z_joinX hP hD hk1 hF hP1 hD1
  exact kk r u H1 locs1 hw hP2 hD2 hS1
theorem z_calllL {S : Type} {post : Int64 → S → Prop} {w1 : S → va_W} (hr : va_Run p l e R0 s m args below meth c H locs cells slots mc ms (F0 m pc ls st0) rest (va_Ql post (fun u t => va_P G.1 vwCl (w1 u) t.heap ∧ va_D (va_A C H.size) (w1 u)) (va_A C H.size) a) (va_A C H.size))
    (hP : va_P G.1 vwCl (C ++ R) H) (hD : va_D A (C ++ R)) (hS : va_S A H0 H locs) (hA : ∀ q, H0.size ≤ q → A q)
    (kk : ∀ (r : Int64) (u : S) (H1 : Heap) (locs1 : List Loc), post r u → va_P G.1 vwCl (w1 u ++ R) H1 → va_D A (w1 u ++ R) → va_S A H0 H1 locs1 → W p l e R0 s m args below meth c H1 locs1 (cells + mc) (slots + ms) Q (F0 m (pc + 3) ls (.long r :: rest))) : W p l e R0 s m args below meth c H locs cells slots Q (F0 m pc ls st0) :=
  z_calllR hr (zP_perm List.perm_append_comm hP) (zD_perm List.perm_append_comm hD) hS hA (fun r u H1 locs1 h1 h2 h3 h4 => kk r u H1 locs1 h1 (zP_perm List.perm_append_comm h2) (zD_perm List.perm_append_comm h3) h4)
/-- a callee's throw, to be caught here -/
theorem z_callX {X : String} (hr : vx_Run p l e R0 s m args below meth c H locs cells slots 1 6 (F0 m pc ls st0) rest (zNi (va_A C H.size) a) (zXC G C X (va_A C H.size)) (va_A C H.size))
    (hP : va_P G.1 vwCl (R ++ C) H) (hD : va_D A (R ++ C)) (hS : va_S A H0 H locs) (hA : ∀ q, H0.size ≤ q → A q)
    (kx : ∀ (ce : Cell) (q9 : Addr) (H1 : Heap) (locs1 : List Loc), va_P G.1 vwCl (R ++ C) H1 → va_D A (R ++ C) → va_S A H0 H1 locs1 → H1[q9]? = some ce → ce.vm = .none → s.vm.findClass X = some ce.cls → vx_W p l e R0 s m args below meth c H1 locs1 (cells + 1) (slots + 6) Q (F0 m pc ls rest) q9) : W p l e R0 s m args below meth c H locs cells slots Q (F0 m pc ls st0) := by
  have hF := z_freeX hD hS hA
  refine vx_calli hr hS (fun q _ h => hF q h) hF (fun q _ h => hF q h) (fun E' ce q9 u t H1 locs1 ht hvm _ hB hz1 hk1 hS1 hce hcv hcl => ?_) (fun r u t H1 locs1 ht hvm hw hB hz1 hk1 hS1 => False.elim hw)
  obtain ⟨rfl, hP1, hD1⟩ := hB
  rw [ht] at hP1
  obtain ⟨hP2, -⟩ := z_joinX hP hD hk1 hF hP1 hD1
  exact kx ce q9 H1 locs1 hP2 hD hS1 hce hcv hcl
/-- the script, read by a number -/
theorem z_sld {bs L : Nat} {xs : Nat → Int32} (hx : p.tables.exec = Jvm.exec) (hb : c.code = cc) (hX : va_X bs L xs s H0) (hbl : bs < H0.size) (hbA : ¬ A bs) (hS : va_S A H0 H locs) (k : Nat) {i : Int32} (hi : i = nI k) (hk : k < L) (hL : L ≤ 2560) (hdg : decode cc pc = .ok (.iaload, 1))
    (kk : W p l e R0 s m args below meth c H locs cells slots Q (F0 m (pc + 1) ls (.int (xs k) :: rest))) : W p l e R0 s m args below meth c H locs cells slots Q (F0 m pc ls (.int i :: .ref bs :: rest)) := by
  subst hi
  refine va_sld hx hb hX hbl hbA hS (vp_in_nI hk (by omega)) hdg ?_
  rw [nI_clamp (by omega)]
  exact kk
/-- the answer's long -/
theorem z_last {WC : va_W} {q : Nat} {ov : Nat → Int64} {x : Int64} (hx : p.tables.exec = Jvm.exec) (hb : c.code = cc) (hK : zK G s) (hP : va_P G.1 vwCl (wO G q ov ++ WC) H) (hD : va_D A (wO G q ov ++ WC)) (hS : va_S A H0 H locs) (hdg : decode cc pc = .ok (.lastore, 1))
    (kk : ∀ (ow : Nat → Int64) (H1 : Heap) (locs1 : List Loc), ow 0 = x → va_P G.1 vwCl (wO G q ow ++ WC) H1 → va_D A (wO G q ow ++ WC) → va_S A H0 H1 locs1 → W p l e R0 s m args below meth c H1 locs1 cells slots Q (F0 m (pc + 1) ls rest)) : W p l e R0 s m args below meth c H locs cells slots Q (F0 m pc ls (.long x :: .int 0 :: .ref q :: rest)) := by
  refine va_last hx hb hK.1 hP hD hS 0 2 rfl rfl ((show vp_in (nI 0) 1 from vp_in_nI (by omega) (by omega))) hdg (fun H1 locs1 h1 h2 h3 => ?_)
  exact kk (vp_updL ov (0 : Int32).toNatClampNeg x) H1 locs1 (by simp [vp_updL]) h1 h2 h3
theorem z_lald {WC : va_W} {q : Nat} {ov : Nat → Int64} (hx : p.tables.exec = Jvm.exec) (hb : c.code = cc) (hK : zK G s) (hP : va_P G.1 vwCl (wO G q ov ++ WC) H) (hdg : decode cc pc = .ok (.laload, 1))
    (kk : W p l e R0 s m args below meth c H locs cells slots Q (F0 m (pc + 1) ls (.long (ov 0) :: rest))) : W p l e R0 s m args below meth c H locs cells slots Q (F0 m pc ls (.int 0 :: .ref q :: rest)) := by
  refine va_lald hx hb hK.1 hP 0 2 rfl rfl ((show vp_in (nI 0) 1 from vp_in_nI (by omega) (by omega))) hdg ?_
  exact kk
end
/-- the room of the law's own methods -/
abbrev zRW : Room := { frames := 10, cells := 1, slots := 6, locals := 300 }
end LAW0
