/-! ===== what all contracts share: the classes, the nest's links, the texts; a method's start, its end, a call ===== -/
section ZL
/-- the classes of objects and their slots; the arrays' classes; the texts' cells -/
abbrev zG : Type := va_G × (Nat → ClassId) × (Nat → Nat)
abbrev zT (G : zG) : List (ClassId × FieldType) := [(G.2.1 0, .int), (G.2.1 1, .object "LightReceiver$State")]
def zNF : List (String × Nat × String × String × String × String) := [("LightReceiver", 57, "LightReceiver$State", "lightRow", "LLightReceiver$Row;", "LightReceiver"), ("LightReceiver", 61, "LightReceiver$Row", "count", "I", "LightReceiver"), ("LightReceiver", 100, "LightReceiver$State", "sinceAccepted", "I", "LightReceiver"), ("LightReceiver", 103, "LightReceiver$State", "glare", "I", "LightReceiver"), ("LightReceiver", 106, "LightReceiver$State", "address", "I", "LightReceiver"), ("LightReceiver", 112, "LightReceiver$State", "actions", "LLightReceiver$Row;", "LightReceiver"), ("LightReceiver", 122, "LightReceiver$State", "gain", "I", "LightReceiver"), ("LightReceiver", 125, "LightReceiver$State", "timesDone", "LLightReceiver$Row;", "LightReceiver"), ("LightReceiver", 132, "LightReceiver$State", "code", "I", "LightReceiver"), ("LightReceiver", 135, "LightReceiver$State", "holds", "I", "LightReceiver"), ("LightReceiver", 138, "LightReceiver$State", "presses", "I", "LightReceiver"), ("LightReceiver", 141, "LightReceiver$State", "refusals", "LLightReceiver$Row;", "LightReceiver"), ("LightReceiver", 144, "LightReceiver$State", "received", "I", "LightReceiver"), ("LightReceiver", 147, "LightReceiver$State", "accepted", "I", "LightReceiver"), ("LightReceiver", 189, "LightReceiver$Saves", "count", "I", "LightReceiver"), ("LightReceiver", 254, "LightReceiver$Ear", "address", "I", "LightReceiver"), ("LightReceiver", 255, "LightReceiver$Ear", "code", "I", "LightReceiver"), ("LightReceiver", 256, "LightReceiver$Ear", "toggle", "I", "LightReceiver"), ("LightReceiver", 259, "LightReceiver$State", "toggle", "I", "LightReceiver"), ("LightReceiver", 260, "LightReceiver$Ear", "missedAny", "Z", "LightReceiver"), ("LightReceiver$Ear", 50, "LightReceiver$Row", "count", "I", "LightReceiver")]
def zNM : List (String × Nat × MethodName × String) := [("LightReceiver", 11, (⟨"LightReceiver$State", "<init>", "()V"⟩ : MethodName), "LightReceiver"), ("LightReceiver", 25, (⟨"LightReceiver$LightText", "<init>", "()V"⟩ : MethodName), "LightReceiver"), ("LightReceiver", 32, (⟨"LightReceiver$Ear", "<init>", "()V"⟩ : MethodName), "LightReceiver"), ("LightReceiver$Ear", 23, (⟨"LightReceiver", "wordOf", "(III)I"⟩ : MethodName), "LightReceiver"), ("LightReceiver$Ear", 34, (⟨"LightReceiver", "bitOf", "(II)I"⟩ : MethodName), "LightReceiver"), ("LightReceiver$Ear", 42, (⟨"LightReceiver", "weakestHeard", "(I)I"⟩ : MethodName), "LightReceiver"), ("LightReceiver$Saves", 17, (⟨"LightReceiver$State", "<init>", "()V"⟩ : MethodName), "LightReceiver")]
def zS6 : List (Nat × Nat × String) := [(0, 69, "the light row does not begin and end with a burst"), (1, 92, "the light row is full"), (3, 190, "no state is saved"), (4, 226, "an argument is out of range"), (5, 231, "there is no such number")]
def zK (G : zG) (U : State) : Prop := va_K G.1 vwCl (zT G) U ∧ (∀ q ∈ zNF, va_Nw (Cond.fieldLinkNest q.1 q.2.1 q.2.2.1 q.2.2.2.1 q.2.2.2.2.1 q.2.2.2.2.2) U) ∧ (∀ q ∈ zNM, va_Nw (Cond.methodLinkNest q.1 q.2.1 q.2.2.1 q.2.2.2) U) ∧ (∀ q ∈ zS6, vk_R "LightReceiver" q.2.1 q.2.2 (G.2.2 q.1) U)
theorem zK.warm {G : zG} {s U : State} (hW : s.WarmedH U.vm) (h : zK G s) : zK G U := ⟨va_K.moved hW.alike h.1, fun q hq => va_Nw.warmF hW (h.2.1 q hq), fun q hq => va_Nw.warmM hW (h.2.2.1 q hq), fun q hq => vk_R.warm hW (h.2.2.2 q hq)⟩
theorem zK.call {G : zG} {U : State} {g : JFrame} {mk : MethodId} {a : Array Value} (h : zK G U) : zK G (U.calling g mk a) := ⟨va_K.moved (u := U) (U := U.calling g mk a) (Vm.Alike.refl U.vm) h.1, fun q hq => va_Nw.same (u := U) (U := U.calling g mk a) rfl rfl (h.2.1 q hq), fun q hq => va_Nw.same (u := U) (U := U.calling g mk a) rfl rfl (h.2.2.1 q hq), fun q hq => vk_R.same (u := U) (U := U.calling g mk a) rfl (h.2.2.2 q hq)⟩
def zP (av : List Value) (G : zG) (wc : va_W) (sz : Nat) : Array Value → State → Prop := va_Pc av (fun U => U.heap.size = sz ∧ va_P G.1 vwCl wc U.heap ∧ zK G U ∧ va_D (fun _ => True) wc)
theorem zP_blind {av : List Value} {G : zG} {wc : va_W} {sz : Nat} : FrameBlind (zP av G wc sz) := fun a U g mk q => ⟨q.1, q.2.1, q.2.2.1, zK.call q.2.2.2.1, q.2.2.2.2⟩
theorem zP_pre {s : State} {H : Heap} {av : List Value} {G : zG} {wc : va_W} {A : Nat → Prop} (hK : zK G s) (hP : va_P G.1 vwCl wc H) (hD : va_D A wc) : ∀ U : State, U.heap = H → s.WarmedH U.vm → zP av G wc H.size av.toArray U := fun U hU hW => ⟨rfl, by rw [hU], by rw [hU]; exact hP, hK.warm hW, hD.weaken (fun _ _ _ _ => trivial)⟩
theorem zV {s : State} {H : Heap} {As : List Value} {G : zG} {wc : va_W} {A : Nat → Prop} {b q0 ci : Nat} {q : vw_C} {fs : List Value} (hK : zK G s) (hP : va_P G.1 vwCl wc H) (hD : va_D A wc) (hc : vwCl[ci]? = some q) (he : wc[q0]? = some (b, .inr (ci, fs))) : PreV s H q.1 b (zP (.ref b :: As) G wc H.size) As := ⟨zP_blind, va_recv hK.1 hP hc he, zP_pre hK hP hD⟩
theorem zS {s : State} {H : Heap} {As : List Value} {G : zG} {wc : va_W} {A : Nat → Prop} (hK : zK G s) (hP : va_P G.1 vwCl wc H) (hD : va_D A wc) : PreS s H (zP As G wc H.size) As := ⟨zP_blind, zP_pre hK hP hD⟩
/-- contracts: an int, a long, nothing as the answer; the world behind it is w1 -/
abbrev zQi {S : Type} (G : zG) (post : Int32 → S → Prop) (w1 : S → va_W) (A : Nat → Prop) : Array Value → State → Outcome → State → Prop := va_Qi post (fun u t => va_P G.1 vwCl (w1 u) t.heap ∧ va_D A (w1 u)) A
abbrev zQv {S : Type} (G : zG) (post : S → Prop) (w1 : S → va_W) (A : Nat → Prop) : Array Value → State → Outcome → State → Prop := va_Qv post (fun u t => va_P G.1 vwCl (w1 u) t.heap ∧ va_D A (w1 u)) A
abbrev zMi {S : Type} (l : Launch) (y : MethodName) (ws : List Cond) (rm : Room) (av : List Value) (G : zG) (wc : va_W) (post : Int32 → S → Prop) (w1 : S → va_W) (sz mc ms : Nat) : Prop := Met l y ws rm (zP av G wc sz) (zQi G post w1 (va_A wc sz)) mc ms (va_A wc sz)
abbrev zMv {S : Type} (l : Launch) (y : MethodName) (ws : List Cond) (rm : Room) (av : List Value) (G : zG) (wc : va_W) (post : S → Prop) (w1 : S → va_W) (sz mc ms : Nat) : Prop := Met l y ws rm (zP av G wc sz) (zQv G post w1 (va_A wc sz)) mc ms (va_A wc sz)
/-- a contract's proof: the body from its entry -/
theorem zM_of {l : Launch} {y : MethodName} {ws ws' : List Cond} {rm : Room} {av : List Value} {G : zG} {wc : va_W} {Qc : (Nat → Prop) → Array Value → State → Outcome → State → Prop} {sz mc ms : Nat} {cc : ByteArray} {maxL : Nat} {ret : Option FieldType}
    (hy : plainName y.cls = true) (hw : ws = Cond.code y cc maxL ret :: ws') (hn : (lg_sl av).length ≤ maxL)
    (body : ∀ (p : Program) (e : Env) (s : State) (m : MethodId) (args : Array Value) (below : List Frame) (meth : Method) (c : Code) (A : Nat → Prop) (ls : Array Slot), p.tables.exec = Jvm.exec → c.code = cc → meth.sig.returnType = ret → c.maxLocals = maxL → (∀ w ∈ ws, w.before args s = true) → s.vm.findClass y.cls = some m.cls → meth.locks = false → meth.name = y.name → zK G s → va_P G.1 vwCl wc s.heap → va_D A wc → va_A wc s.heap.size = A → va_S A s.heap s.heap [] → (∀ q : Nat, s.heap.size ≤ q → A q) → lv_has ls maxL (lv_args 0 av) → s.heap.size = sz →
      W p l e rm s m args below meth c s.heap [] 0 0 (MQ below (Qc A) args s mc ms A) (F0 m 0 ls [])) : Met l y ws rm (zP av G wc sz) (Qc (va_A wc sz)) mc ms (va_A wc sz) := by
  refine Met.ofW (cc := cc) (maxL := maxL) (ret := ret) hy hw ?_
  intro p e s m args below meth c s₁ B hml hv
  obtain ⟨rfl, hsz, hP, hK, hD0⟩ := hv
  have hl := lv_entry av (n := maxL) hn
  rw [lg_entry_eq]
  subst hsz
  exact body p e s m av.toArray below meth c (va_A wc s.heap.size) _ B.exec B.bytes B.returns hml (atoms_spec (ws := ws) B.pre) (findClass_of_methodNamed B.named) B.notSynchronized (name_of_methodNamed B.named B.method).1 hK hP hD0.self rfl va_S.rf (fun q h => Or.inr h) hl rfl
theorem zMi_of {S : Type} {post : Int32 → S → Prop} {w1 : S → va_W} {l : Launch} {y : MethodName} {ws ws' : List Cond} {rm : Room} {av : List Value} {G : zG} {wc : va_W} {sz mc ms : Nat} {cc : ByteArray} {maxL : Nat} {ret : Option FieldType}
    (hy : plainName y.cls = true) (hw : ws = Cond.code y cc maxL ret :: ws') (hn : (lg_sl av).length ≤ maxL)
    (body : ∀ (p : Program) (e : Env) (s : State) (m : MethodId) (args : Array Value) (below : List Frame) (meth : Method) (c : Code) (A : Nat → Prop) (ls : Array Slot), p.tables.exec = Jvm.exec → c.code = cc → meth.sig.returnType = ret → c.maxLocals = maxL → (∀ w ∈ ws, w.before args s = true) → s.vm.findClass y.cls = some m.cls → meth.locks = false → meth.name = y.name → zK G s → va_P G.1 vwCl wc s.heap → va_D A wc → va_A wc s.heap.size = A → va_S A s.heap s.heap [] → (∀ q : Nat, s.heap.size ≤ q → A q) → lv_has ls maxL (lv_args 0 av) → s.heap.size = sz →
      W p l e rm s m args below meth c s.heap [] 0 0 (MQ below (zQi G post w1 A) args s mc ms A) (F0 m 0 ls [])) : zMi l y ws rm av G wc post w1 sz mc ms := zM_of (Qc := zQi G post w1) hy hw hn body
theorem zMv_of {S : Type} {post : S → Prop} {w1 : S → va_W} {l : Launch} {y : MethodName} {ws ws' : List Cond} {rm : Room} {av : List Value} {G : zG} {wc : va_W} {sz mc ms : Nat} {cc : ByteArray} {maxL : Nat} {ret : Option FieldType}
    (hy : plainName y.cls = true) (hw : ws = Cond.code y cc maxL ret :: ws') (hn : (lg_sl av).length ≤ maxL)
    (body : ∀ (p : Program) (e : Env) (s : State) (m : MethodId) (args : Array Value) (below : List Frame) (meth : Method) (c : Code) (A : Nat → Prop) (ls : Array Slot), p.tables.exec = Jvm.exec → c.code = cc → meth.sig.returnType = ret → c.maxLocals = maxL → (∀ w ∈ ws, w.before args s = true) → s.vm.findClass y.cls = some m.cls → meth.locks = false → meth.name = y.name → zK G s → va_P G.1 vwCl wc s.heap → va_D A wc → va_A wc s.heap.size = A → va_S A s.heap s.heap [] → (∀ q : Nat, s.heap.size ≤ q → A q) → lv_has ls maxL (lv_args 0 av) → s.heap.size = sz →
      W p l e rm s m args below meth c s.heap [] 0 0 (MQ below (zQv G post w1 A) args s mc ms A) (F0 m 0 ls [])) : zMv l y ws rm av G wc post w1 sz mc ms := zM_of (Qc := zQv G post w1) hy hw hn body
section
variable {p : Program} {l : Launch} {e : Env} {R : Room} {s : State} {m : MethodId} {args : Array Value} {below : List Frame} {meth : Method} {c : Code} {H : Heap} {locs : List Loc} {cells slots : Nat} {Q : State → Prop}
variable {cc : ByteArray} {pc : Nat} {ls : Array Slot} {rest st0 : List Value} {G : zG} {A : Nat → Prop} {ws wr wc : va_W} {H0 : Heap} {mc ms : Nat} {a : Array Value}
theorem z_iret {S : Type} {post : Int32 → S → Prop} {w1 : S → va_W} {v : Int32} {ty : FieldType} (hx : p.tables.exec = Jvm.exec) (hb : c.code = cc) (hr : meth.sig.returnType = some ty) (hnw : narrow ty (.int v) = .int v) (hlocks : meth.locks = false) (u : S) (hP : va_P G.1 vwCl (w1 u) H) (hD : va_D A (w1 u)) (hS : va_S A s.heap H locs) (hcs : cells ≤ mc) (hss : slots ≤ ms) (hd : decode cc pc = .ok (.ireturn, 1)) (hw : post v u) :
    W p l e R s m args below meth c H locs cells slots (MQ below (va_Qi post (fun u t => va_P G.1 vwCl (w1 u) t.heap ∧ va_D A (w1 u)) A) args s mc ms A) (F0 m pc ls [.int v]) :=
  W.widen hcs hss (W.zret hx hb hr hnw (fun t ht hW => ⟨⟨v, u, rfl, hw, by rw [ht]; exact hP, hD⟩, hS.F ht⟩) hS.2.2 hd hlocks)
theorem z_vret {S : Type} {post : S → Prop} {w1 : S → va_W} (hx : p.tables.exec = Jvm.exec) (hb : c.code = cc) (hr : meth.sig.returnType = none) (hlocks : meth.locks = false) (u : S) (hP : va_P G.1 vwCl (w1 u) H) (hD : va_D A (w1 u)) (hS : va_S A s.heap H locs) (hcs : cells ≤ mc) (hss : slots ≤ ms) (hd : decode cc pc = .ok (.return_, 1)) (hw : post u) :
    W p l e R s m args below meth c H locs cells slots (MQ below (va_Qv post (fun u t => va_P G.1 vwCl (w1 u) t.heap ∧ va_D A (w1 u)) A) args s mc ms A) (F0 m pc ls []) :=
  W.widen hcs hss (W.vret hx hb hr (fun t ht hW => ⟨⟨u, rfl, hw, by rw [ht]; exact hP, hD⟩, hS.F ht⟩) hS.2.2 hd hlocks)
theorem z_calli {S : Type} {post : Int32 → S → Prop} {w1 : S → va_W} (hr : va_Run p l e R s m args below meth c H locs cells slots mc ms (F0 m pc ls st0) rest (va_Qi post (fun u t => va_P G.1 vwCl (w1 u) t.heap ∧ va_D (va_A wc H.size) (w1 u)) (va_A wc H.size) a) (va_A wc H.size))
    (hP : va_P G.1 vwCl ws H) (hD : va_D A ws) (hS : va_S A H0 H locs) (hA : ∀ q, H0.size ≤ q → A q) (isC isR : List Nat) (hC : isC.map (fun i => ws[i]?) = wc.map some) (hR : isR.map (fun i => ws[i]?) = wr.map some) (hn : va_nd isR = true) (hdis : ∀ i ∈ isR, i ∉ isC)
    (kk : ∀ (r : Int32) (u : S) (H1 : Heap) (locs1 : List Loc), post r u → va_P G.1 vwCl (wr ++ w1 u) H1 → va_D A (wr ++ w1 u) → va_S A H0 H1 locs1 → W p l e R s m args below meth c H1 locs1 (cells + mc) (slots + ms) Q (F0 m (pc + 3) ls (.int r :: rest))) : W p l e R s m args below meth c H locs cells slots Q (F0 m pc ls st0) := by
  have hF := va_free hD hS hA isC hC
  refine va_calli hr hS (fun q _ h => hF q h) hF (fun r u t H1 locs1 ht hvm hw hB hz1 hk1 hS1 => ?_)
  obtain ⟨hP1, hD1⟩ := hB
  rw [ht] at hP1
  obtain ⟨hP2, hD2⟩ := va_join hP hD isC isR hC hR hn hdis hk1 hF hP1 hD1
  exact kk r u H1 locs1 hw hP2 hD2 hS1
theorem z_callv {S : Type} {post : S → Prop} {w1 : S → va_W} (hr : va_Run p l e R s m args below meth c H locs cells slots mc ms (F0 m pc ls st0) rest (va_Qv post (fun u t => va_P G.1 vwCl (w1 u) t.heap ∧ va_D (va_A wc H.size) (w1 u)) (va_A wc H.size) a) (va_A wc H.size))
    (hP : va_P G.1 vwCl ws H) (hD : va_D A ws) (hS : va_S A H0 H locs) (hA : ∀ q, H0.size ≤ q → A q) (isC isR : List Nat) (hC : isC.map (fun i => ws[i]?) = wc.map some) (hR : isR.map (fun i => ws[i]?) = wr.map some) (hn : va_nd isR = true) (hdis : ∀ i ∈ isR, i ∉ isC)
    (kk : ∀ (u : S) (H1 : Heap) (locs1 : List Loc), post u → va_P G.1 vwCl (wr ++ w1 u) H1 → va_D A (wr ++ w1 u) → va_S A H0 H1 locs1 → W p l e R s m args below meth c H1 locs1 (cells + mc) (slots + ms) Q (F0 m (pc + 3) ls rest)) : W p l e R s m args below meth c H locs cells slots Q (F0 m pc ls st0) := by
  have hF := va_free hD hS hA isC hC
  refine va_callv hr hS (fun q _ h => hF q h) hF (fun u t H1 locs1 ht hvm hw hB hz1 hk1 hS1 => ?_)
  obtain ⟨hP1, hD1⟩ := hB
  rw [ht] at hP1
  obtain ⟨hP2, hD2⟩ := va_join hP hD isC isR hC hR hn hdis hk1 hF hP1 hD1
  exact kk u H1 locs1 hw hP2 hD2 hS1
end
section
variable {p : Program} {l : Launch} {e : Env} {R : Room} {s : State} {m : MethodId} {args : Array Value} {below : List Frame} {meth : Method} {c : Code} {H : Heap} {locs : List Loc} {cells slots : Nat} {Q : State → Prop}
variable {cc : ByteArray} {pc : Nat} {ls : Array Slot} {rest : List Value} {D : va_G} {cl : List vw_C} {A : Nat → Prop} {a : Nat} {tys : List (ClassId × FieldType)} {ws : va_W} {H0 : Heap}
theorem z_top {x y : Int32} (h : x = y) (k : W p l e R s m args below meth c H locs cells slots Q (F0 m pc ls (.int y :: rest))) : W p l e R s m args below meth c H locs cells slots Q (F0 m pc ls (.int x :: rest)) := h ▸ k
theorem z_iald (hx : p.tables.exec = Jvm.exec) (hb : c.code = cc) (hK : va_K D cl tys s) (hP : va_P D cl ws H) (q0 t0 : Nat) {cA : ClassId} {n k : Nat} {f : Nat → Int32} (ha : ws[q0]? = some (a, .inl (cA, n, .inl f))) (ht : tys[t0]? = some (cA, .int)) {i : Int32} (hi : i = nI k) (hk : k < n) (hn : n < 2147483648) (hdg : decode cc pc = .ok (.iaload, 1))
    (kk : W p l e R s m args below meth c H locs cells slots Q (F0 m (pc + 1) ls (.int (f k) :: rest))) : W p l e R s m args below meth c H locs cells slots Q (F0 m pc ls (.int i :: .ref a :: rest)) := by
  subst hi
  refine va_iald hx hb hK hP q0 t0 ha ht (vp_in_nI hk (by omega)) hdg ?_
  rw [nI_clamp (by omega)]
  exact kk
theorem z_iast (hx : p.tables.exec = Jvm.exec) (hb : c.code = cc) (hK : va_K D cl tys s) (hP : va_P D cl ws H) (hD : va_D A ws) (hS : va_S A H0 H locs) (q0 t0 : Nat) {cA : ClassId} {n k : Nat} {f : Nat → Int32} (ha : ws[q0]? = some (a, .inl (cA, n, .inl f))) (ht : tys[t0]? = some (cA, .int)) {i x : Int32} (hi : i = nI k) (hk : k < n) (hn : n < 2147483648) (hdg : decode cc pc = .ok (.iastore, 1))
    (kk : ∀ (H1 : Heap) (locs1 : List Loc), va_P D cl (ws.set q0 (a, .inl (cA, n, .inl (upd f k x)))) H1 → va_D A (ws.set q0 (a, .inl (cA, n, .inl (upd f k x)))) → va_S A H0 H1 locs1 → W p l e R s m args below meth c H1 locs1 cells slots Q (F0 m (pc + 1) ls rest)) : W p l e R s m args below meth c H locs cells slots Q (F0 m pc ls (.int x :: .int i :: .ref a :: rest)) := by
  subst hi
  refine va_iast hx hb hK hP hD hS q0 t0 ha ht (vp_in_nI hk (by omega)) hdg ?_
  rw [nI_clamp (by omega)]
  exact kk
theorem z_aald (hx : p.tables.exec = Jvm.exec) (hb : c.code = cc) (hK : va_K D cl tys s) (hP : va_P D cl ws H) (q0 t0 : Nat) {cA : ClassId} {C : String} {n k v : Nat} {f : Nat → Option Nat} (ha : ws[q0]? = some (a, .inl (cA, n, .inr (.inr (.inr (.inr f)))))) (ht : tys[t0]? = some (cA, .object C)) {i : Int32} (hi : i = nI k) (hk : k < n) (hn : n < 2147483648) (hv : f k = some v) (hdg : decode cc pc = .ok (.aaload, 1))
    (kk : W p l e R s m args below meth c H locs cells slots Q (F0 m (pc + 1) ls (.ref v :: rest))) : W p l e R s m args below meth c H locs cells slots Q (F0 m pc ls (.int i :: .ref a :: rest)) := by
  subst hi
  refine va_aldq hx hb hK hP q0 t0 ha ht (vp_in_nI hk (by omega)) hdg ?_
  rw [nI_clamp (by omega), hv]
  exact kk
theorem z_aast (hx : p.tables.exec = Jvm.exec) (hb : c.code = cc) (hK : va_K D cl tys s) (hP : va_P D cl ws H) (hD : va_D A ws) (hS : va_S A H0 H locs) (q0 t0 qk ci : Nat) {cA : ClassId} {r : vw_C} {n v k : Nat} {vs : List Value} {f : Nat → Option Nat} (ha : ws[q0]? = some (a, .inl (cA, n, .inr (.inr (.inr (.inr f)))))) (ht : tys[t0]? = some (cA, .object r.1)) (hv : ws[qk]? = some (v, .inr (ci, vs))) (hc : cl[ci]? = some r) {i : Int32} (hi : i = nI k) (hk : k < n) (hn : n < 2147483648) (hdg : decode cc pc = .ok (.aastore, 1))
    (kk : ∀ (H1 : Heap) (locs1 : List Loc), va_P D cl (ws.set q0 (a, .inl (cA, n, .inr (.inr (.inr (.inr (va_up f k (some v)))))))) H1 → va_D A (ws.set q0 (a, .inl (cA, n, .inr (.inr (.inr (.inr (va_up f k (some v)))))))) → va_S A H0 H1 locs1 → W p l e R s m args below meth c H1 locs1 cells slots Q (F0 m (pc + 1) ls rest)) : W p l e R s m args below meth c H locs cells slots Q (F0 m pc ls (.ref v :: .int i :: .ref a :: rest)) := by
  subst hi
  refine va_astq hx hb hK hP hD hS q0 t0 qk ci ha ht hv hc (vp_in_nI hk (by omega)) hdg ?_
  rw [nI_clamp (by omega)]
  exact kk
end
theorem zn_0 {G : zG} {s : State} {args : Array Value} (hK : zK G s) : (Cond.fieldLinkNest "LightReceiver" 57 "LightReceiver$State" "lightRow" "LLightReceiver$Row;" "LightReceiver").before args s = true := va_Nw.use rfl (hK.2.1 ("LightReceiver", 57, "LightReceiver$State", "lightRow", "LLightReceiver$Row;", "LightReceiver") (by decide +kernel))
theorem zn_1 {G : zG} {s : State} {args : Array Value} (hK : zK G s) : (Cond.fieldLinkNest "LightReceiver" 61 "LightReceiver$Row" "count" "I" "LightReceiver").before args s = true := va_Nw.use rfl (hK.2.1 ("LightReceiver", 61, "LightReceiver$Row", "count", "I", "LightReceiver") (by decide +kernel))
theorem zn_2 {G : zG} {s : State} {args : Array Value} (hK : zK G s) : (Cond.fieldLinkNest "LightReceiver" 100 "LightReceiver$State" "sinceAccepted" "I" "LightReceiver").before args s = true := va_Nw.use rfl (hK.2.1 ("LightReceiver", 100, "LightReceiver$State", "sinceAccepted", "I", "LightReceiver") (by decide +kernel))
theorem zn_3 {G : zG} {s : State} {args : Array Value} (hK : zK G s) : (Cond.fieldLinkNest "LightReceiver" 103 "LightReceiver$State" "glare" "I" "LightReceiver").before args s = true := va_Nw.use rfl (hK.2.1 ("LightReceiver", 103, "LightReceiver$State", "glare", "I", "LightReceiver") (by decide +kernel))
theorem zn_4 {G : zG} {s : State} {args : Array Value} (hK : zK G s) : (Cond.fieldLinkNest "LightReceiver" 106 "LightReceiver$State" "address" "I" "LightReceiver").before args s = true := va_Nw.use rfl (hK.2.1 ("LightReceiver", 106, "LightReceiver$State", "address", "I", "LightReceiver") (by decide +kernel))
theorem zn_5 {G : zG} {s : State} {args : Array Value} (hK : zK G s) : (Cond.fieldLinkNest "LightReceiver" 112 "LightReceiver$State" "actions" "LLightReceiver$Row;" "LightReceiver").before args s = true := va_Nw.use rfl (hK.2.1 ("LightReceiver", 112, "LightReceiver$State", "actions", "LLightReceiver$Row;", "LightReceiver") (by decide +kernel))
theorem zn_6 {G : zG} {s : State} {args : Array Value} (hK : zK G s) : (Cond.fieldLinkNest "LightReceiver" 122 "LightReceiver$State" "gain" "I" "LightReceiver").before args s = true := va_Nw.use rfl (hK.2.1 ("LightReceiver", 122, "LightReceiver$State", "gain", "I", "LightReceiver") (by decide +kernel))
theorem zn_7 {G : zG} {s : State} {args : Array Value} (hK : zK G s) : (Cond.fieldLinkNest "LightReceiver" 125 "LightReceiver$State" "timesDone" "LLightReceiver$Row;" "LightReceiver").before args s = true := va_Nw.use rfl (hK.2.1 ("LightReceiver", 125, "LightReceiver$State", "timesDone", "LLightReceiver$Row;", "LightReceiver") (by decide +kernel))
theorem zn_8 {G : zG} {s : State} {args : Array Value} (hK : zK G s) : (Cond.fieldLinkNest "LightReceiver" 132 "LightReceiver$State" "code" "I" "LightReceiver").before args s = true := va_Nw.use rfl (hK.2.1 ("LightReceiver", 132, "LightReceiver$State", "code", "I", "LightReceiver") (by decide +kernel))
theorem zn_9 {G : zG} {s : State} {args : Array Value} (hK : zK G s) : (Cond.fieldLinkNest "LightReceiver" 135 "LightReceiver$State" "holds" "I" "LightReceiver").before args s = true := va_Nw.use rfl (hK.2.1 ("LightReceiver", 135, "LightReceiver$State", "holds", "I", "LightReceiver") (by decide +kernel))
theorem zn_10 {G : zG} {s : State} {args : Array Value} (hK : zK G s) : (Cond.fieldLinkNest "LightReceiver" 138 "LightReceiver$State" "presses" "I" "LightReceiver").before args s = true := va_Nw.use rfl (hK.2.1 ("LightReceiver", 138, "LightReceiver$State", "presses", "I", "LightReceiver") (by decide +kernel))
theorem zn_11 {G : zG} {s : State} {args : Array Value} (hK : zK G s) : (Cond.fieldLinkNest "LightReceiver" 141 "LightReceiver$State" "refusals" "LLightReceiver$Row;" "LightReceiver").before args s = true := va_Nw.use rfl (hK.2.1 ("LightReceiver", 141, "LightReceiver$State", "refusals", "LLightReceiver$Row;", "LightReceiver") (by decide +kernel))
theorem zn_12 {G : zG} {s : State} {args : Array Value} (hK : zK G s) : (Cond.fieldLinkNest "LightReceiver" 144 "LightReceiver$State" "received" "I" "LightReceiver").before args s = true := va_Nw.use rfl (hK.2.1 ("LightReceiver", 144, "LightReceiver$State", "received", "I", "LightReceiver") (by decide +kernel))
theorem zn_13 {G : zG} {s : State} {args : Array Value} (hK : zK G s) : (Cond.fieldLinkNest "LightReceiver" 147 "LightReceiver$State" "accepted" "I" "LightReceiver").before args s = true := va_Nw.use rfl (hK.2.1 ("LightReceiver", 147, "LightReceiver$State", "accepted", "I", "LightReceiver") (by decide +kernel))
theorem zn_15 {G : zG} {s : State} {args : Array Value} (hK : zK G s) : (Cond.fieldLinkNest "LightReceiver" 189 "LightReceiver$Saves" "count" "I" "LightReceiver").before args s = true := va_Nw.use rfl (hK.2.1 ("LightReceiver", 189, "LightReceiver$Saves", "count", "I", "LightReceiver") (by decide +kernel))
theorem zn_16 {G : zG} {s : State} {args : Array Value} (hK : zK G s) : (Cond.fieldLinkNest "LightReceiver" 254 "LightReceiver$Ear" "address" "I" "LightReceiver").before args s = true := va_Nw.use rfl (hK.2.1 ("LightReceiver", 254, "LightReceiver$Ear", "address", "I", "LightReceiver") (by decide +kernel))
theorem zn_17 {G : zG} {s : State} {args : Array Value} (hK : zK G s) : (Cond.fieldLinkNest "LightReceiver" 255 "LightReceiver$Ear" "code" "I" "LightReceiver").before args s = true := va_Nw.use rfl (hK.2.1 ("LightReceiver", 255, "LightReceiver$Ear", "code", "I", "LightReceiver") (by decide +kernel))
theorem zn_18 {G : zG} {s : State} {args : Array Value} (hK : zK G s) : (Cond.fieldLinkNest "LightReceiver" 256 "LightReceiver$Ear" "toggle" "I" "LightReceiver").before args s = true := va_Nw.use rfl (hK.2.1 ("LightReceiver", 256, "LightReceiver$Ear", "toggle", "I", "LightReceiver") (by decide +kernel))
theorem zn_19 {G : zG} {s : State} {args : Array Value} (hK : zK G s) : (Cond.fieldLinkNest "LightReceiver" 259 "LightReceiver$State" "toggle" "I" "LightReceiver").before args s = true := va_Nw.use rfl (hK.2.1 ("LightReceiver", 259, "LightReceiver$State", "toggle", "I", "LightReceiver") (by decide +kernel))
theorem zn_20 {G : zG} {s : State} {args : Array Value} (hK : zK G s) : (Cond.fieldLinkNest "LightReceiver" 260 "LightReceiver$Ear" "missedAny" "Z" "LightReceiver").before args s = true := va_Nw.use rfl (hK.2.1 ("LightReceiver", 260, "LightReceiver$Ear", "missedAny", "Z", "LightReceiver") (by decide +kernel))
theorem zn_21 {G : zG} {s : State} {args : Array Value} (hK : zK G s) : (Cond.fieldLinkNest "LightReceiver$Ear" 50 "LightReceiver$Row" "count" "I" "LightReceiver").before args s = true := va_Nw.use rfl (hK.2.1 ("LightReceiver$Ear", 50, "LightReceiver$Row", "count", "I", "LightReceiver") (by decide +kernel))
theorem zm_0 {G : zG} {s : State} (hK : zK G s) : va_Nw (Cond.methodLinkNest "LightReceiver" 11 (⟨"LightReceiver$State", "<init>", "()V"⟩ : MethodName) "LightReceiver") s := hK.2.2.1 ("LightReceiver", 11, (⟨"LightReceiver$State", "<init>", "()V"⟩ : MethodName), "LightReceiver") (by decide +kernel)
theorem zm_1 {G : zG} {s : State} (hK : zK G s) : va_Nw (Cond.methodLinkNest "LightReceiver" 25 (⟨"LightReceiver$LightText", "<init>", "()V"⟩ : MethodName) "LightReceiver") s := hK.2.2.1 ("LightReceiver", 25, (⟨"LightReceiver$LightText", "<init>", "()V"⟩ : MethodName), "LightReceiver") (by decide +kernel)
theorem zm_2 {G : zG} {s : State} (hK : zK G s) : va_Nw (Cond.methodLinkNest "LightReceiver" 32 (⟨"LightReceiver$Ear", "<init>", "()V"⟩ : MethodName) "LightReceiver") s := hK.2.2.1 ("LightReceiver", 32, (⟨"LightReceiver$Ear", "<init>", "()V"⟩ : MethodName), "LightReceiver") (by decide +kernel)
theorem zm_3 {G : zG} {s : State} (hK : zK G s) : va_Nw (Cond.methodLinkNest "LightReceiver$Ear" 23 (⟨"LightReceiver", "wordOf", "(III)I"⟩ : MethodName) "LightReceiver") s := hK.2.2.1 ("LightReceiver$Ear", 23, (⟨"LightReceiver", "wordOf", "(III)I"⟩ : MethodName), "LightReceiver") (by decide +kernel)
theorem zm_4 {G : zG} {s : State} (hK : zK G s) : va_Nw (Cond.methodLinkNest "LightReceiver$Ear" 34 (⟨"LightReceiver", "bitOf", "(II)I"⟩ : MethodName) "LightReceiver") s := hK.2.2.1 ("LightReceiver$Ear", 34, (⟨"LightReceiver", "bitOf", "(II)I"⟩ : MethodName), "LightReceiver") (by decide +kernel)
theorem zm_5 {G : zG} {s : State} (hK : zK G s) : va_Nw (Cond.methodLinkNest "LightReceiver$Ear" 42 (⟨"LightReceiver", "weakestHeard", "(I)I"⟩ : MethodName) "LightReceiver") s := hK.2.2.1 ("LightReceiver$Ear", 42, (⟨"LightReceiver", "weakestHeard", "(I)I"⟩ : MethodName), "LightReceiver") (by decide +kernel)
theorem zm_7 {G : zG} {s : State} (hK : zK G s) : va_Nw (Cond.methodLinkNest "LightReceiver$Saves" 17 (⟨"LightReceiver$State", "<init>", "()V"⟩ : MethodName) "LightReceiver") s := hK.2.2.1 ("LightReceiver$Saves", 17, (⟨"LightReceiver$State", "<init>", "()V"⟩ : MethodName), "LightReceiver") (by decide +kernel)
/-- two array functions that agree within the length give one cell -/
theorem zcell_i {cA : ClassId} {n : Nat} {f g : Nat → Int32} (h : ∀ j, j < n → f j = g j) : vp_cell cA (n, .inl f) = vp_cell cA (n, .inl g) := by
  show arrV cA n (fun j => Value.int (f j)) = arrV cA n (fun j => Value.int (g j))
  unfold arrV
  have e : (fun j : Fin n => Value.int (f j.val)) = (fun j : Fin n => Value.int (g j.val)) := by
    funext j
    rw [h j.val j.isLt]
  rw [e]
theorem zP_arr {D : va_G} {cl : List vw_C} {ws ws' : va_W} {H : Heap} (hP : va_P D cl ws H) (q : Nat) {a : Nat} {cA : ClassId} {n : Nat} {f g : Nat → Int32} (he : ws[q]? = some (a, .inl (cA, n, .inl f))) (h : ∀ j, j < n → f j = g j) (hw : ws.set q (a, .inl (cA, n, .inl g)) = ws') : va_P D cl ws' H := by
  subst hw
  intro k x hk
  rw [List.getElem?_set] at hk
  by_cases hq : q = k
  · subst hq
    rw [if_pos rfl] at hk
    split at hk
    · cases hk
      have h1 := hP q _ he
      show H[a]? = some (vp_cell cA (n, .inl g))
      rw [← zcell_i h]
      exact h1
    · cases hk
  · rw [if_neg hq] at hk
    exact hP k x hk
theorem zD_arr {A : Nat → Prop} {ws ws' : va_W} (hD : va_D A ws) (q : Nat) {a : Nat} {e0 e : va_E} (he : ws[q]? = some (a, e0)) (hw : ws.set q (a, e) = ws') : va_D A ws' := by
  subst hw
  exact hD.set he
end ZL

