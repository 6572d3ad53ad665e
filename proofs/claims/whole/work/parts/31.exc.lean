/-! ===== throws that leave a method, its world as it was ===== -/
section EXC
def zXc : List String := ["java/lang/IllegalArgumentException", "java/lang/IllegalStateException", "java/lang/IndexOutOfBoundsException"]
def zXd : List MethodName := [⟨"java/lang/RuntimeException", "<init>", "(Ljava/lang/String;)V"⟩, ⟨"java/lang/Exception", "<init>", "(Ljava/lang/String;)V"⟩, ⟨"java/lang/Throwable", "<init>", "(Ljava/lang/String;)V"⟩]
def zX (A : Nat → Prop) (U : State) (H : Heap) : Prop := vx_Zq Bundle.tN "UNASSIGNED_STACK" Bundle.steD A U H ∧ vx_Zq Bundle.tN "SUPPRESSED_SENTINEL" Bundle.listD A U H ∧ (∀ X ∈ zXc, va_Nw (.castable X X) U) ∧ (∀ y ∈ zXd, va_Nw (.declares y) U)
theorem zX.to {A B : Nat → Prop} {s U : State} {H H1 : Heap} (hW : s.WarmedH U.vm) (hq : ∀ a : Nat, a < H.size → ¬ A a → H1[a]? = H[a]?) (hAB : ∀ q, B q → A q) (h : zX A s H) : zX B U H1 :=
  ⟨((h.1.kept hq).narrow hAB).moved hW.alike, ((h.2.1.kept hq).narrow hAB).moved hW.alike, fun X hX => va_Nw.warmC hW (h.2.2.1 X hX), fun y hy => va_Nw.warmD hW (h.2.2.2 y hy)⟩
theorem zX.call {A : Nat → Prop} {U : State} {H : Heap} {g : JFrame} {mk : MethodId} {a : Array Value} (h : zX A U H) : zX A (U.calling g mk a) H :=
  ⟨vx_Zq.moved (u := U) (U := U.calling g mk a) (Vm.Alike.refl U.vm) h.1, vx_Zq.moved (u := U) (U := U.calling g mk a) (Vm.Alike.refl U.vm) h.2.1, fun X hX => va_Nw.same (u := U) (U := U.calling g mk a) rfl rfl (h.2.2.1 X hX), fun y hy => va_Nw.same (u := U) (U := U.calling g mk a) rfl rfl (h.2.2.2 y hy)⟩
def zPx (av : List Value) (G : zG) (wc : va_W) (sz : Nat) : Array Value → State → Prop := va_Pc av (fun U => U.heap.size = sz ∧ va_P G.1 vwCl wc U.heap ∧ zK G U ∧ va_D (fun _ => True) wc ∧ zX (va_A wc sz) U U.heap)
theorem zPx_blind {av : List Value} {G : zG} {wc : va_W} {sz : Nat} : FrameBlind (zPx av G wc sz) := fun a U g mk q => ⟨q.1, q.2.1, q.2.2.1, zK.call q.2.2.2.1, q.2.2.2.2.1, zX.call q.2.2.2.2.2⟩
theorem zPx_pre {s : State} {H : Heap} {locs : List Loc} {av : List Value} {G : zG} {wc : va_W} {A : Nat → Prop} (hK : zK G s) (hP : va_P G.1 vwCl wc H) (hD : va_D A wc) (hS : va_S A s.heap H locs) (hZ : zX A s s.heap) (hA : ∀ q, s.heap.size ≤ q → A q) : ∀ U : State, U.heap = H → s.WarmedH U.vm → zPx av G wc H.size av.toArray U :=
  fun U hU hW => ⟨rfl, by rw [hU], by rw [hU]; exact hP, hK.warm hW, hD.weaken (fun _ _ _ _ => trivial), by
    rw [hU]
    refine zX.to hW hS.2.1 (fun q h => ?_) hZ
    rcases h with ⟨k, e, h⟩ | h
    · exact hD.2 k (q, e) h
    · exact hA q (Nat.le_trans hS.1 h)⟩
theorem zVx {s : State} {H : Heap} {locs : List Loc} {As : List Value} {G : zG} {wc : va_W} {A : Nat → Prop} {b q0 ci : Nat} {q : vw_C} {fs : List Value} (hK : zK G s) (hP : va_P G.1 vwCl wc H) (hD : va_D A wc) (hS : va_S A s.heap H locs) (hZ : zX A s s.heap) (hA : ∀ q, s.heap.size ≤ q → A q) (hc : vwCl[ci]? = some q) (he : wc[q0]? = some (b, .inr (ci, fs))) : PreV s H q.1 b (zPx (.ref b :: As) G wc H.size) As := ⟨zPx_blind, va_recv hK.1 hP hc he, zPx_pre hK hP hD hS hZ hA⟩
theorem zSx {s : State} {H : Heap} {locs : List Loc} {As : List Value} {G : zG} {wc : va_W} {A : Nat → Prop} (hK : zK G s) (hP : va_P G.1 vwCl wc H) (hD : va_D A wc) (hS : va_S A s.heap H locs) (hZ : zX A s s.heap) (hA : ∀ q, s.heap.size ≤ q → A q) : PreS s H (zPx As G wc H.size) As := ⟨zPx_blind, zPx_pre hK hP hD hS hZ hA⟩
/-- what has been thrown: E, and the world as it was -/
def zXC (G : zG) (wc : va_W) (E : String) (A : Nat → Prop) : String → State → State → Prop := vx_X (fun (_ : Unit) => True) (fun E' _ t => E' = E ∧ va_P G.1 vwCl wc t.heap ∧ va_D A wc) A
abbrev zNi (A : Nat → Prop) : Array Value → State → Outcome → State → Prop := va_Qi (fun _ (_ : Unit) => False) (fun _ _ => True) A
abbrev zNv (A : Nat → Prop) : Array Value → State → Outcome → State → Prop := va_Qv (fun (_ : Unit) => False) (fun _ _ => True) A
abbrev zMx (Qn : (Nat → Prop) → Array Value → State → Outcome → State → Prop) (l : Launch) (y : MethodName) (ws : List Cond) (rm : Room) (av : List Value) (G : zG) (wc : va_W) (E : String) (sz : Nat) : Prop := vx_Met l y ws rm (zPx av G wc sz) (Qn (va_A wc sz)) (zXC G wc E (va_A wc sz)) 1 6 (va_A wc sz)
theorem zMx_of {Qn : (Nat → Prop) → Array Value → State → Outcome → State → Prop} {l : Launch} {y : MethodName} {ws ws' : List Cond} {rm : Room} {av : List Value} {G : zG} {wc : va_W} {E : String} {sz : Nat} {cc : ByteArray} {maxL : Nat} {ret : Option FieldType}
    (hy : plainName y.cls = true) (hw : ws = Cond.code y cc maxL ret :: ws') (hn : (lg_sl av).length ≤ maxL)
    (body : ∀ (p : Program) (e : Env) (s : State) (m : MethodId) (args : Array Value) (below : List Frame) (meth : Method) (c : Code) (A : Nat → Prop) (ls : Array Slot), p.tables.exec = Jvm.exec → c.code = cc → meth.sig.returnType = ret → c.maxLocals = maxL → (∀ w ∈ ws, w.before args s = true) → s.vm.findClass y.cls = some m.cls → meth.locks = false → meth.name = y.name → zK G s → va_P G.1 vwCl wc s.heap → va_D A wc → va_A wc s.heap.size = A → va_S A s.heap s.heap [] → (∀ q : Nat, s.heap.size ≤ q → A q) → lv_has ls maxL (lv_args 0 av) → s.heap.size = sz → zX A s s.heap → (∀ x ∈ c.exceptionTable.toList, False) →
      W p l e rm s m args below meth c s.heap [] 0 0 (vx_MQ below (Qn A) (zXC G wc E A) args s 1 6 A) (F0 m 0 ls [])) : zMx Qn l y ws rm av G wc E sz := by
  refine vx_ofW (cc := cc) (maxL := maxL) (ret := ret) hy hw ?_
  intro p e s m args below meth c s₁ B hml hte hv
  obtain ⟨rfl, hsz, hP, hK, hD0, hZ⟩ := hv
  have hl := lv_entry av (n := maxL) hn
  rw [lg_entry_eq]
  subst hsz
  exact body p e s m av.toArray below meth c (va_A wc s.heap.size) _ B.exec B.bytes B.returns hml (atoms_spec (ws := ws) B.pre) (findClass_of_methodNamed B.named) B.notSynchronized (name_of_methodNamed B.named B.method).1 hK hP hD0.self rfl va_S.rf (fun q h => Or.inr h) hl rfl hZ hte
section
variable {p : Program} {l : Launch} {e : Env} {R : Room} {s : State} {m : MethodId} {args : Array Value} {below : List Frame} {meth : Method} {c : Code} {H : Heap} {locs : List Loc} {cells slots : Nat} {Qc : Array Value → State → Outcome → State → Prop}
variable {cc : ByteArray} {pc : Nat} {ls : Array Slot} {rest st0 : List Value} {G : zG} {A : Nat → Prop} {ws wr wc : va_W} {E : String} {a : Array Value}
/-- 'throw new E(text)' -/
theorem z_throw {text : String} {ik is ic sa : Nat} (hl0 : l.stackTraces = false) (hx : p.tables.exec = Jvm.exec) (hb : c.code = cc) (hown : s.vm.findClass RX5 = some m.cls) (hcls : Bundle.fit E = true)
    (hk : (Cond.classLink RX5 ik E).before args s = true) (hini : (Cond.initialized E).before args s = true) (hstr : vk_R RX5 is text sa s)
    (hg1 : ∀ w ∈ (vx_atS RX5 ic E ["java/lang/RuntimeException", "java/lang/Exception"]).filter goodWord, w.before args s = true)
    (hg2 : ∀ w ∈ (vx_atS RX5 ic E ["java/lang/RuntimeException", "java/lang/Exception"]).filter (fun w => !goodWord w), w ∈ Cond.castable E E :: zXd.map Cond.declares)
    (hgood : ∀ w ∈ Cond.classLink RX5 ik E :: Cond.initialized E :: vx_atS RX5 ic E ["java/lang/RuntimeException", "java/lang/Exception"], vx_ot w = true)
    (hE : E ∈ zXc) (hZ : zX A s s.heap) (hP : va_P G.1 vwCl ws H) (hD : va_D A ws) (hS : va_S A s.heap H locs) (hsize : ls.size = c.maxLocals) (hte : ∀ x ∈ c.exceptionTable.toList, False)
    (d0 : decode cc pc = .ok (.new ik, 3)) (d3 : decode cc (pc + 3) = .ok (.dup, 1)) (d4 : decode cc (pc + 4) = .ok (.ldc is, 2)) (d6 : decode cc (pc + 6) = .ok (.invokespecial ic, 3)) (d9 : decode cc (pc + 9) = .ok (.athrow, 1))
    (hRf : 5 < R.frames) (hRl : (rest.map fun v => v.category).sum + 82 ≤ R.locals) (hRc : cells + 1 ≤ R.cells) (hRs : slots + 6 ≤ R.slots) (hlocks : meth.locks = false) (hc : cells + 1 ≤ 1) (hs : slots + 6 ≤ 6) :
    W p l e R s m args below meth c H locs cells slots (vx_MQ below Qc (zXC G ws E A) args s 1 6 A) (F0 m pc ls rest) := by
  refine vx_throwS (names := ["java/lang/RuntimeException", "java/lang/Exception"]) hx hb hl0 hown hcls (by decide +kernel) hk hini hstr (vx_hat hg1 hg2 (fun w hw => ?_)) hgood hZ.1 hZ.2.1 hS hsize d0 d3 d4 d6 d9 (fun x hx => (hte x hx).elim) hRf hRl hRc hRs hlocks (fun t hal h1 h2 => ?_) hS.2.2 hc hs
  · rcases List.mem_cons.mp hw with h | h
    · rw [h]; exact va_Nw.use rfl (hZ.2.2.1 E hE)
    · obtain ⟨y, hy, rfl⟩ := List.mem_map.mp h
      exact va_Nw.use rfl (hZ.2.2.2 y hy)
  · exact ⟨(), trivial, ⟨rfl, hP.kept (fun k q hk => h2 q.1 ((hP k q hk).lt)), hD⟩, Nat.le_trans hS.1 h1, fun q g1 g2 => (h2 q (Nat.lt_of_lt_of_le g1 hS.1)).trans (hS.2.1 q g1 g2)⟩
/-- a callee's throw goes on -/
theorem z_outv (hr : vx_Run p l e R s m args below meth c H locs cells slots 1 6 (F0 m pc ls st0) rest (zNv (va_A wc H.size) a) (zXC G wc E (va_A wc H.size)) (va_A wc H.size))
    (hP : va_P G.1 vwCl ws H) (hD : va_D A ws) (hS : va_S A s.heap H locs) (hA : ∀ q, s.heap.size ≤ q → A q) (hte : ∀ x ∈ c.exceptionTable.toList, False) (hlocks : meth.locks = false) (isC : List Nat) (hC : isC.map (fun i => ws[i]?) = wc.map some) (hc : cells + 1 ≤ 1) (hs : slots + 6 ≤ 6) :
    W p l e R s m args below meth c H locs cells slots (vx_MQ below Qc (zXC G ws E A) args s 1 6 A) (F0 m pc ls st0) := by
  have hF := va_free hD hS hA isC hC
  refine vx_callv hr hS (fun q _ h => hF q h) hF (fun q _ h => hF q h) (fun E' ce q9 u t H1 locs1 ht hvm _ hB hz1 hk1 hS1 hce hcv hcl => ?_) (fun u t H1 locs1 ht hvm hw hB hz1 hk1 hS1 => False.elim hw)
  obtain ⟨rfl, hP1, hD1⟩ := hB
  rw [ht] at hP1
  refine vx_out (fun x hx => (hte x hx).elim) hlocks hce hcv hcl (fun t2 ht2 hal2 => ⟨(), trivial, ⟨rfl, ?_, hD⟩, hS1.F ht2⟩) hS1.2.2 hc hs
  rw [ht2]
  intro k q hk
  by_cases hin : va_A wc H.size q.1
  · rcases hin with ⟨j, e9, hj⟩ | hge
    · obtain ⟨i, hi1, hi2⟩ : ∃ i, isC[j]? = some i ∧ ws[i]? = some (q.1, e9) := by
        have h1 : (isC.map (fun i => ws[i]?))[j]? = some (some (q.1, e9)) := by rw [hC, List.getElem?_map, hj]; rfl
        rw [List.getElem?_map] at h1
        cases hij : isC[j]? with
        | none => rw [hij] at h1; cases h1
        | some i => rw [hij] at h1; exact ⟨i, rfl, Option.some.inj h1⟩
      have := hD.1 k i q (q.1, e9) hk hi2 rfl
      subst this
      have e : q = (q.1, e9) := Option.some.inj (hk.symm.trans hi2)
      rw [e]
      exact hP1 j _ hj
    · exact absurd (hP k q hk).lt (by omega)
  · exact (hP k q hk).kept (hk1 q.1 ((hP k q hk).lt) hin)
end
theorem zg2_IllegalArgumentException : ∀ w ∈ (vx_atS RX5 228 "java/lang/IllegalArgumentException" ["java/lang/RuntimeException", "java/lang/Exception"]).filter (fun w => !goodWord w), w ∈ Cond.castable "java/lang/IllegalArgumentException" "java/lang/IllegalArgumentException" :: zXd.map Cond.declares := by decide +kernel
theorem zg2_IllegalStateException : ∀ w ∈ (vx_atS RX5 71 "java/lang/IllegalStateException" ["java/lang/RuntimeException", "java/lang/Exception"]).filter (fun w => !goodWord w), w ∈ Cond.castable "java/lang/IllegalStateException" "java/lang/IllegalStateException" :: zXd.map Cond.declares := by decide +kernel
theorem zg2_IndexOutOfBoundsException : ∀ w ∈ (vx_atS RX5 233 "java/lang/IndexOutOfBoundsException" ["java/lang/RuntimeException", "java/lang/Exception"]).filter (fun w => !goodWord w), w ∈ Cond.castable "java/lang/IndexOutOfBoundsException" "java/lang/IndexOutOfBoundsException" :: zXd.map Cond.declares := by decide +kernel
end EXC
