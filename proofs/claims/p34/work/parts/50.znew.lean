/-! ===== what is new: arrays of the known classes; a start that may make arrays of states ===== -/
section ZNEW
def ad9 (x0 x1 x2 x3 x4 x5 x6 x7 x8 : Nat) : Nat → Nat
  | 0 => x0
  | 1 => x1
  | 2 => x2
  | 3 => x3
  | 4 => x4
  | 5 => x5
  | 6 => x6
  | 7 => x7
  | _ => x8
def pp6 (p0 p1 p2 p3 p4 p5 : Nat → Nat) : Nat → Nat → Nat
  | 0 => p0
  | 1 => p1
  | 2 => p2
  | 3 => p3
  | 4 => p4
  | _ => p5
/-- a new state -/
def gS0 : zF
  | 1 => 10
  | 6 => -1
  | _ => 0
def zS0 : zSt := (gS0, fun _ => fun _ => 0, 0)
def zPo (av : List Value) (G : zG) (wc : va_W) (sz : Nat) : Array Value → State → Prop := va_Pc av (fun U => U.heap.size = sz ∧ va_P G.1 vwCl wc U.heap ∧ zK G U ∧ va_D (fun _ => True) wc ∧ va_AO RX4 U)
theorem zPo_blind {av : List Value} {G : zG} {wc : va_W} {sz : Nat} : FrameBlind (zPo av G wc sz) := fun a U g mk q => ⟨q.1, q.2.1, q.2.2.1, zK.call q.2.2.2.1, q.2.2.2.2.1, va_AO.moved (u := U) (U := U.calling g mk a) (Vm.Alike.refl U.vm) q.2.2.2.2.2⟩
theorem zSo {s : State} {H : Heap} {As : List Value} {G : zG} {wc : va_W} {A : Nat → Prop} (hO : va_AO RX4 s) (hK : zK G s) (hP : va_P G.1 vwCl wc H) (hD : va_D A wc) : PreS s H (zPo As G wc H.size) As :=
  ⟨zPo_blind, fun U hU hW => ⟨rfl, by rw [hU], by rw [hU]; exact hP, hK.warm hW, hD.weaken (fun _ _ _ _ => trivial), va_AO.moved hW.alike hO⟩⟩
abbrev zMo {S : Type} (l : Launch) (y : MethodName) (ws : List Cond) (rm : Room) (av : List Value) (G : zG) (wc : va_W) (post : S → Prop) (w1 : S → va_W) (sz mc ms : Nat) : Prop := Met l y ws rm (zPo av G wc sz) (zQv G post w1 (va_A wc sz)) mc ms (va_A wc sz)
theorem zMo_of {S : Type} {post : S → Prop} {w1 : S → va_W} {l : Launch} {y : MethodName} {ws ws' : List Cond} {rm : Room} {av : List Value} {G : zG} {wc : va_W} {sz mc ms : Nat} {cc : ByteArray} {maxL : Nat} {ret : Option FieldType}
    (hy : plainName y.cls = true) (hw : ws = Cond.code y cc maxL ret :: ws') (hn : (lg_sl av).length ≤ maxL)
    (body : ∀ (p : Program) (e : Env) (s : State) (m : MethodId) (args : Array Value) (below : List Frame) (meth : Method) (c : Code) (A : Nat → Prop) (ls : Array Slot), p.tables.exec = Jvm.exec → c.code = cc → meth.sig.returnType = ret → c.maxLocals = maxL → (∀ w ∈ ws, w.before args s = true) → s.vm.findClass y.cls = some m.cls → meth.locks = false → meth.name = y.name → zK G s → va_P G.1 vwCl wc s.heap → va_D A wc → va_A wc s.heap.size = A → va_S A s.heap s.heap [] → (∀ q : Nat, s.heap.size ≤ q → A q) → lv_has ls maxL (lv_args 0 av) → s.heap.size = sz → va_AO RX4 s →
      W p l e rm s m args below meth c s.heap [] 0 0 (MQ below (zQv G post w1 A) args s mc ms A) (F0 m 0 ls [])) : zMo l y ws rm av G wc post w1 sz mc ms := by
  refine Met.ofW (cc := cc) (maxL := maxL) (ret := ret) hy hw ?_
  intro p e s m args below meth c s₁ B hml hv
  obtain ⟨rfl, hsz, hP, hK, hD0, hO⟩ := hv
  have hl := lv_entry av (n := maxL) hn
  rw [lg_entry_eq]
  subst hsz
  exact body p e s m av.toArray below meth c (va_A wc s.heap.size) _ B.exec B.bytes B.returns hml (atoms_spec (ws := ws) B.pre) (findClass_of_methodNamed B.named) B.notSynchronized (name_of_methodNamed B.named B.method).1 hK hP hD0.self rfl va_S.rf (fun q h => Or.inr h) hl rfl hO
section
variable {p : Program} {l : Launch} {e : Env} {R : Room} {s : State} {m : MethodId} {args : Array Value} {below : List Frame} {meth : Method} {c : Code} {H : Heap} {locs : List Loc} {cells slots : Nat} {Q : State → Prop}
variable {cc : ByteArray} {pc : Nat} {ls : Array Slot} {rest : List Value} {G : zG} {A : Nat → Prop} {ws : va_W} {H0 : Heap}
theorem z_newi (hx : p.tables.exec = Jvm.exec) (hb : c.code = cc) (harr : (Cond.arrayClass .int).before args s = true) (hK : zK G s) (hP : va_P G.1 vwCl ws H) (hD : va_D A ws) (hS : va_S A H0 H locs) (hA : ∀ q, H0.size ≤ q → A q)
    {n : Int32} {N : Nat} (hn : n = nI N) (hN : N ≤ 1000) (hcells : cells + 1 ≤ R.cells) (hslots : slots + N ≤ R.slots) (hdg : decode cc pc = .ok (.newarray .int, 2))
    (kk : ∀ (q : Nat) (H1 : Heap), va_P G.1 vwCl (ws ++ [(q, .inl (G.2.1 0, N, .inl (fun _ => 0)))]) H1 → va_D A (ws ++ [(q, .inl (G.2.1 0, N, .inl (fun _ => 0)))]) → va_S A H0 H1 locs →
      W p l e R s m args below meth c H1 locs (cells + 1) (slots + N) Q (F0 m (pc + 2) ls (.ref q :: rest))) : W p l e R s m args below meth c H locs cells slots Q (F0 m pc ls (.int n :: rest)) := by
  subst hn
  refine va_newa (atype := .int) (ty := .int) hx hb harr rfl hK.1 hP hD hS hA (N' := N) (a0 := (N, .inl (fun _ => 0))) (fun cA => rfl) (nI_pos (by omega)) (nI_clamp (by omega)) (by show N * 4 ≤ 536870912; omega) hcells hslots hdg (fun q cA H1 hK' hP' hD' hS' => ?_)
  have h1 : s.vm.findClass ("[" ++ (FieldType.int).toString) = some cA := (hK'.2 2 (cA, .int) rfl).2
  have h0 : s.vm.findClass ("[" ++ (FieldType.int).toString) = some (G.2.1 0) := (hK.1.2 0 (G.2.1 0, .int) rfl).2
  obtain rfl : G.2.1 0 = cA := Option.some.inj (h0.symm.trans h1)
  exact kk q H1 hP' hD' hS'
theorem z_newq (hx : p.tables.exec = Jvm.exec) (hb : c.code = cc) {own : String} {index : Nat} (hown : s.vm.findClass own = some m.cls) (hcl : (Cond.classLink own index RX4).before args s = true) (hO : va_AO RX4 s) (hK : zK G s) (hP : va_P G.1 vwCl ws H) (hD : va_D A ws) (hS : va_S A H0 H locs) (hA : ∀ q, H0.size ≤ q → A q)
    {n : Int32} {N : Nat} (hn : n = nI N) (hN : N ≤ 1000) (hcells : cells + 1 ≤ R.cells) (hslots : slots + N ≤ R.slots) (hdg : decode cc pc = .ok (.anewarray index, 3))
    (kk : ∀ (q : Nat) (H1 : Heap), va_P G.1 vwCl (ws ++ [(q, .inl (G.2.1 1, N, .inr (.inr (.inr (.inr (fun _ => none))))))]) H1 → va_D A (ws ++ [(q, .inl (G.2.1 1, N, .inr (.inr (.inr (.inr (fun _ => none))))))]) → va_S A H0 H1 locs →
      W p l e R s m args below meth c H1 locs (cells + 1) (slots + N) Q (F0 m (pc + 3) ls (.ref q :: rest))) : W p l e R s m args below meth c H locs cells slots Q (F0 m pc ls (.int n :: rest)) := by
  subst hn
  refine va_newq hx hb hown hcl hO hK.1 hP hD hS hA (N' := N) (nI_pos (by omega)) (nI_clamp (by omega)) (by omega) hcells hslots hdg (fun q cA H1 hK' hP' hD' hS' => ?_)
  obtain ⟨-, -, -, -, -, h1⟩ := (hK'.2 2 (cA, .object RX4) rfl).2
  obtain ⟨-, -, -, -, -, h0⟩ := (hK.1.2 1 (G.2.1 1, .object "LightReceiver$State") rfl).2
  obtain rfl : G.2.1 1 = cA := Option.some.inj (h0.symm.trans h1)
  exact kk q H1 hP' hD' hS'
end
end ZNEW

