/-! ===== methods that may draw which NaN they answer ===== -/
section ZDRAW
abbrev zQd {S : Type} (G : zG) (post : UInt64 → S → Prop) (w1 : S → va_W) (A : Nat → Prop) : Array Value → State → Outcome → State → Prop := va_Qd post (fun u t => va_P G.1 vwCl (w1 u) t.heap ∧ va_D A (w1 u)) A
abbrev zMd {S : Type} (l : Launch) (y : MethodName) (ws : List Cond) (rm : Room) (av : List Value) (G : zG) (wc : va_W) (post : UInt64 → S → Prop) (w1 : S → va_W) (sz mc ms : Nat) : Prop := MetD lw_cs l y ws rm (zP av G wc sz) (zQd G post w1 (va_A wc sz)) mc ms (va_A wc sz)
theorem zMd_of {S : Type} {post : UInt64 → S → Prop} {w1 : S → va_W} {l : Launch} {y : MethodName} {ws ws' : List Cond} {rm : Room} {av : List Value} {G : zG} {wc : va_W} {sz mc ms : Nat} {cc : ByteArray} {maxL : Nat} {ret : Option FieldType}
    (hy : plainName y.cls = true) (hw : ws = Cond.code y cc maxL ret :: ws') (hn : (lg_sl av).length ≤ maxL)
    (body : ∀ (p : Program) (e : Env) (s : State) (m : MethodId) (args : Array Value) (below : List Frame) (meth : Method) (c : Code) (A : Nat → Prop) (ls : Array Slot), p.tables.exec = Jvm.exec → c.code = cc → meth.sig.returnType = ret → c.maxLocals = maxL → (∀ w ∈ ws, w.before args (s.setDrawn s.drawn) = true) → s.vm.findClass y.cls = some m.cls → meth.locks = false → meth.name = y.name → zK G (s.setDrawn s.drawn) → va_P G.1 vwCl wc s.heap → va_D A wc → va_A wc s.heap.size = A → va_S A s.heap s.heap [] → (∀ q : Nat, s.heap.size ≤ q → A q) → lv_has ls maxL (lv_args 0 av) → s.heap.size = sz → s.drawn.sameBut s.drawn lw_cs →
      W p l e rm (s.setDrawn s.drawn) m args below meth c s.heap [] 0 0 (MQD lw_cs below (zQd G post w1 A) args s mc ms A) (F0 m 0 ls [])) : zMd l y ws rm av G wc post w1 sz mc ms := by
  refine MetD.ofW (cc := cc) (maxL := maxL) (ret := ret) hy hw ?_
  intro p e s m args below meth c s₁ B hml hv hd0
  obtain ⟨rfl, hsz, hP, hK, hD0⟩ := hv
  have hl := lv_entry av (n := maxL) hn
  rw [lg_entry_eq]
  subst hsz
  exact body p e s m av.toArray below meth c (va_A wc s.heap.size) _ B.exec B.bytes B.returns hml (dr_words (atoms_spec (ws := ws) B.pre) _) (findClass_of_methodNamed B.named) B.notSynchronized (name_of_methodNamed B.named B.method).1 hK hP hD0.self rfl va_S.rf (fun q h => Or.inr h) hl rfl hd0
section
variable {p : Program} {l : Launch} {e : Env} {R : Room} {s : State} {m : MethodId} {args : Array Value} {below : List Frame} {meth : Method} {c : Code} {H : Heap} {locs : List Loc} {cells slots : Nat} {Q : State → Prop}
variable {cc : ByteArray} {pc : Nat} {ls : Array Slot} {rest st0 : List Value} {G : zG} {A : Nat → Prop} {E R0 C T ws wr wc : va_W} {H0 : Heap} {mc ms : Nat} {a : Array Value} {d0 : Drawn}
theorem z_dret {S : Type} {post : UInt64 → S → Prop} {w1 : S → va_W} {v : UInt64} (hd0 : s.drawn.sameBut d0 lw_cs) (hx : p.tables.exec = Jvm.exec) (hb : c.code = cc) (hr : meth.sig.returnType = some .double) (hlocks : meth.locks = false) (u : S) (hP : va_P G.1 vwCl (w1 u) H) (hD : va_D A (w1 u)) (hS : va_S A s.heap H locs) (hcs : cells ≤ mc) (hss : slots ≤ ms) (hd : decode cc pc = .ok (.dreturn, 1)) (hw : post v u) :
    W p l e R (s.setDrawn d0) m args below meth c H locs cells slots (MQD lw_cs below (va_Qd post (fun u t => va_P G.1 vwCl (w1 u) t.heap ∧ va_D A (w1 u)) A) args s mc ms A) (F0 m pc ls [.double v]) := by
  refine W.endD hd0 ?_
  exact W.widen hcs hss (W.dret hx hb hr (fun t ht hW => ⟨⟨v, u, rfl, hw, by rw [ht]; exact hP, hD⟩, hS.F ht⟩) hS.2.2 hd hlocks)
end
/-- what a share is: 1 of none; else the quotient, or any NaN where that is one -/
def shP (n k : Int32) (r : UInt64) : Prop := (n = 0 ∧ r = FP.dconst1) ∨ (¬ n = 0 ∧ alike64 r (FP.ddiv (FP.i2d k) (FP.i2d n)) = true)
end ZDRAW
section
theorem zw_X5_hitShare_f12 : Cond.fieldLink RX5 12 "LightReceiver" "now" "LLightReceiver$State;" ∈ wsX5_hitShare := by decide +kernel
theorem zi_X5_hitShare_X5 : ∀ w ∈ wsX50, w ∈ wsX5_hitShare := fun _ h => List.mem_cons_of_mem _ (List.mem_append_left _ (List.mem_append_right _ h))
theorem zi_X5_hitShare_X4 : ∀ w ∈ wsX40, w ∈ wsX5_hitShare := fun _ h => List.mem_cons_of_mem _ (List.mem_append_right _ h)
set_option maxHeartbeats 1000000 in
set_option maxRecDepth 100000 in
theorem c_X5_hitShare (l : Launch) (G : zG) (sz : Nat) (a b : Nat → Nat) (x y1 y2 : Nat) (g : zF) : zMd l yX5_hitShare wsX5_hitShare ({ frames := 0, cells := 0, slots := 0, locals := 0 } : Room) [.ref x] G [(x, .inr (5, [.ref (a 0), .ref y1, .ref y2, .ref (b 0)])), ((a 0), .inr (4, [.int (g 0), .int (g 1), .int (g 2), .int (g 3), .int (g 4), .int (g 5), .int (g 6), .int (g 7), .int (g 8), .int (g 9), .ref (a 1), .ref (a 2), .ref (a 3), .ref (a 4)]))] (fun (v : UInt64) (_ : Unit) => shP (g 8) (g 9) v) (fun _ => [(x, .inr (5, [.ref (a 0), .ref y1, .ref y2, .ref (b 0)])), ((a 0), .inr (4, [.int (g 0), .int (g 1), .int (g 2), .int (g 3), .int (g 4), .int (g 5), .int (g 6), .int (g 7), .int (g 8), .int (g 9), .ref (a 1), .ref (a 2), .ref (a 3), .ref (a 4)]))]) sz 0 0 := by
  refine zMd_of (cc := cX5_hitShare) (maxL := 1) (ret := (some .double)) (by decide) rfl (Nat.le_of_ble_eq_true rfl) ?_
  intro p e s m args below meth c A ls hx hb hr hml hts hown hlocks hnm hK hP hD hAe hS hA hl hsz hd0
  have hown : s.vm.findClass RX5 = some m.cls := hown
  have hP : va_P G.1 vwCl [(x, .inr (5, [.ref (a 0), .ref y1, .ref y2, .ref (b 0)])), ((a 0), .inr (4, [.int (g 0), .int (g 1), .int (g 2), .int (g 3), .int (g 4), .int (g 5), .int (g 6), .int (g 7), .int (g 8), .int (g 9), .ref (a 1), .ref (a 2), .ref (a 3), .ref (a 4)]))] s.heap := hP
  have hD : va_D A [(x, .inr (5, [.ref (a 0), .ref y1, .ref y2, .ref (b 0)])), ((a 0), .inr (4, [.int (g 0), .int (g 1), .int (g 2), .int (g 3), .int (g 4), .int (g 5), .int (g 6), .int (g 7), .int (g 8), .int (g 9), .ref (a 1), .ref (a 2), .ref (a 3), .ref (a 4)]))] := hD
  have hl : lv_has ls 1 [(0, .ref x)] := hl
  refine lv_aload_n hx hb dX5_hitShare_0 rfl (lv_at hl 0 rfl) ?_
  refine va_get (D := G.1) (ci := 5) (v := .ref (a 0)) (C := RX5) (T := TX5) (N := 4) hx hb hts zi_X5_hitShare_X5 hown hK.1 hP 0 rfl rfl 0 (by decide) (hts _ zw_X5_hitShare_f12) (fun _ h9 => h9) rfl dX5_hitShare_1 ?_
  refine va_getN (D := G.1) (ci := 4) (v := .int (g 8)) (C := RX4) (T := TX4) (N := 14) hx hb hts zi_X5_hitShare_X4 hown hK.1 hP 1 rfl rfl 8 (by decide) (zn_12 hK) (fun _ h9 => h9) rfl dX5_hitShare_4 ?_
  refine lv_if_ne (tgt := 12) hx hb dX5_hitShare_7 (by decide) (fun c_1 => ?_) (fun c_1 => ?_)
  · refine lv_aload_n hx hb dX5_hitShare_12 rfl (lv_at hl 0 rfl) ?_
    refine va_get (D := G.1) (ci := 5) (v := .ref (a 0)) (C := RX5) (T := TX5) (N := 4) hx hb hts zi_X5_hitShare_X5 hown hK.1 hP 0 rfl rfl 0 (by decide) (hts _ zw_X5_hitShare_f12) (fun _ h9 => h9) rfl dX5_hitShare_13 ?_
    refine va_getN (D := G.1) (ci := 4) (v := .int (g 9)) (C := RX4) (T := TX4) (N := 14) hx hb hts zi_X5_hitShare_X4 hown hK.1 hP 1 rfl rfl 9 (by decide) (zn_13 hK) (fun _ h9 => h9) rfl dX5_hitShare_16 ?_
    refine lv_i2d hx hb dX5_hitShare_19 ?_
    refine lv_aload_n hx hb dX5_hitShare_20 rfl (lv_at hl 0 rfl) ?_
    refine va_get (D := G.1) (ci := 5) (v := .ref (a 0)) (C := RX5) (T := TX5) (N := 4) hx hb hts zi_X5_hitShare_X5 hown hK.1 hP 0 rfl rfl 0 (by decide) (hts _ zw_X5_hitShare_f12) (fun _ h9 => h9) rfl dX5_hitShare_21 ?_
    refine va_getN (D := G.1) (ci := 4) (v := .int (g 8)) (C := RX4) (T := TX4) (N := 14) hx hb hts zi_X5_hitShare_X4 hown hK.1 hP 1 rfl rfl 8 (by decide) (zn_12 hK) (fun _ h9 => h9) rfl dX5_hitShare_24 ?_
    refine lv_i2d hx hb dX5_hitShare_27 ?_
    refine lv_ddiv_any hd0 lw_bits hx hb dX5_hitShare_28 (fun r_2 d1 hal_2 hd0 => ?_)
    have hP9 := hP.sub (ws' := [(x, .inr (5, [.ref (a 0), .ref y1, .ref y2, .ref (b 0)])), ((a 0), .inr (4, [.int (g 0), .int (g 1), .int (g 2), .int (g 3), .int (g 4), .int (g 5), .int (g 6), .int (g 7), .int (g 8), .int (g 9), .ref (a 1), .ref (a 2), .ref (a 3), .ref (a 4)]))]) [0, 1] rfl
    have hD9 := hD.sub (ws' := [(x, .inr (5, [.ref (a 0), .ref y1, .ref y2, .ref (b 0)])), ((a 0), .inr (4, [.int (g 0), .int (g 1), .int (g 2), .int (g 3), .int (g 4), .int (g 5), .int (g 6), .int (g 7), .int (g 8), .int (g 9), .ref (a 1), .ref (a 2), .ref (a 3), .ref (a 4)]))]) [0, 1] (by decide) rfl
    exact z_dret hd0 hx hb hr hlocks () hP9 hD9 hS (Nat.le_of_ble_eq_true rfl) (Nat.le_of_ble_eq_true rfl) dX5_hitShare_29 (Or.inr ⟨c_1, hal_2⟩)
  · refine lv_dconst1 hx hb dX5_hitShare_10 ?_
    have hP9 := hP.sub (ws' := [(x, .inr (5, [.ref (a 0), .ref y1, .ref y2, .ref (b 0)])), ((a 0), .inr (4, [.int (g 0), .int (g 1), .int (g 2), .int (g 3), .int (g 4), .int (g 5), .int (g 6), .int (g 7), .int (g 8), .int (g 9), .ref (a 1), .ref (a 2), .ref (a 3), .ref (a 4)]))]) [0, 1] rfl
    have hD9 := hD.sub (ws' := [(x, .inr (5, [.ref (a 0), .ref y1, .ref y2, .ref (b 0)])), ((a 0), .inr (4, [.int (g 0), .int (g 1), .int (g 2), .int (g 3), .int (g 4), .int (g 5), .int (g 6), .int (g 7), .int (g 8), .int (g 9), .ref (a 1), .ref (a 2), .ref (a 3), .ref (a 4)]))]) [0, 1] (by decide) rfl
    exact z_dret hd0 hx hb hr hlocks () hP9 hD9 hS (Nat.le_of_ble_eq_true rfl) (Nat.le_of_ble_eq_true rfl) dX5_hitShare_11 (Or.inl ⟨c_1, rfl⟩)
end

