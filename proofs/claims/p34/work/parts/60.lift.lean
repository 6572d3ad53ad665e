/-! ===== contracts over larger worlds; calls beside worlds that aren't opened ===== -/
section LIFT
theorem zM_cons {l : Launch} {y : MethodName} {ws : List Cond} {rm : Room} {Pc Pc' : Array Value → State → Prop} {Qc Qc' : Array Value → State → Outcome → State → Prop} {mc ms : Nat} {free free' : Addr → Prop}
    (h : Met l y ws rm Pc Qc mc ms free) (hP : ∀ a s, Pc' a s → Pc a s) (hQ : ∀ a s o t, Pc' a s → Qc a s o t → Qc' a s o t) (hf : ∀ q, free q → free' q) : Met l y ws rm Pc' Qc' mc ms free' := by
  intro p e ha hc hk s m args below hb happ hp hk2
  obtain ⟨n, o, h1, h2, h3, h4, L, h5, h6⟩ := h p e ha hc hk s m args below hb happ (hP _ _ hp) trivial
  exact ⟨n, o, h1, h2, h3, hQ _ _ _ _ hp h4, L, h5, fun q hq => hf _ (h6 q hq)⟩
theorem zMD_cons {cs : List Choice} {l : Launch} {y : MethodName} {ws : List Cond} {rm : Room} {Pc Pc' : Array Value → State → Prop} {Qc Qc' : Array Value → State → Outcome → State → Prop} {mc ms : Nat} {free free' : Addr → Prop}
    (h : MetD cs l y ws rm Pc Qc mc ms free) (hP : ∀ a s, Pc' a s → Pc a s) (hQ : ∀ a s d o t, Pc' a s → Qc a (s.setDrawn d) o t → Qc' a (s.setDrawn d) o t) (hf : ∀ q, free q → free' q) : MetD cs l y ws rm Pc' Qc' mc ms free' := by
  intro p e ha hc hk s m args below hb happ hp hk2
  obtain ⟨n, o, h1, h2, h3, d, hd, h4, L, h5, h6⟩ := h p e ha hc hk s m args below hb happ (hP _ _ hp) trivial
  exact ⟨n, o, h1, h2, h3, d, hd, hQ _ _ _ _ _ hp h4, L, h5, fun q hq => hf _ (h6 q hq)⟩
theorem z_plm {E F : va_W} {is : List Nat} (hs : is.map (fun i => E[i]?) = F.map some) : ∀ q ∈ F, q ∈ E := by
  intro q hq
  obtain ⟨k, hk⟩ := List.getElem?_of_mem hq
  have h1 : (is.map (fun i => E[i]?))[k]? = some (some q) := by rw [hs, List.getElem?_map, hk]; rfl
  rw [List.getElem?_map] at h1
  cases hi : is[k]? with
  | none => rw [hi] at h1; cases h1
  | some i => rw [hi] at h1; exact List.mem_of_getElem? (Option.some.inj h1)
theorem zA_sub {wc W : va_W} {sz : Nat} (h : ∀ q ∈ wc, q ∈ W) : ∀ q, va_A wc sz q → va_A W sz q := by
  intro q hq
  rcases hq with ⟨k, e, hk⟩ | hq
  · obtain ⟨j, hj⟩ := List.getElem?_of_mem (h _ (List.mem_of_getElem? hk))
    exact Or.inl ⟨j, e, hj⟩
  · exact Or.inr hq
theorem zF_sub {A B : Nat → Prop} {st t : State} (h : ∀ q, A q → B q) (hF : va_F A st t) : va_F B st t := ⟨hF.1, fun q a b => hF.2 q a (fun z => b (h q z))⟩
theorem zP_right {D : va_G} {cl : List vw_C} {A B : va_W} {H : Heap} (h : va_P D cl (A ++ B) H) : va_P D cl B H := zPm.mpr (fun q hq => zPm.mp h q (List.mem_append_right _ hq))
theorem zP_left {D : va_G} {cl : List vw_C} {A B : va_W} {H : Heap} (h : va_P D cl (A ++ B) H) : va_P D cl A H := zPm.mpr (fun q hq => zPm.mp h q (List.mem_append_left _ hq))
theorem zD_right {P : Nat → Prop} {A B : va_W} (h : va_D P (A ++ B)) : va_D P B := by
  obtain ⟨h1, h2⟩ := zDm.mp h
  exact zDm.mpr ⟨(List.pairwise_append.mp h1).2.1, fun q hq => h2 q (List.mem_append_right _ hq)⟩
theorem zD_left {P : Nat → Prop} {A B : va_W} (h : va_D P (A ++ B)) : va_D P A := by
  obtain ⟨h1, h2⟩ := zDm.mp h
  exact zDm.mpr ⟨(List.pairwise_append.mp h1).1, fun q hq => h2 q (List.mem_append_left _ hq)⟩
/-- the frame of a contract: R stays; C is the callee's world, w1 what it leaves -/
theorem z_frame {A0 : Nat → Prop} {D : va_G} {cl : List vw_C} {R C w1 : va_W} {st t : State} (hP : va_P D cl (R ++ C) st.heap) (hD : va_D A0 (R ++ C)) (hF : ∀ q, va_A C st.heap.size q → A0 q) (h : va_F (va_A C st.heap.size) st t) (hP1 : va_P D cl w1 t.heap) (hD1 : va_D (va_A C st.heap.size) w1) : va_P D cl (R ++ w1) t.heap ∧ va_D A0 (R ++ w1) :=
  z_joinX hP hD h.2 hF hP1 hD1
section
variable {S S' : Type} {l : Launch} {y : MethodName} {ws : List Cond} {rm : Room} {av : List Value} {G : zG} {sz mc ms : Nat} {E R C T : va_W} {w1 F X Y : S → va_W} {W' : S' → va_W}
/-- where the heap held E ++ T, C among E: what it holds behind -/
theorem z_liftT {st t : State} {f : S → S'} {u : S} (is : List Nat) (hs : is.map (fun i => E[i]?) = (R ++ C).map some) (hn : va_nd is = true) (is' : List Nat) (hs' : ∀ u, is'.map (fun i => (R ++ w1 u)[i]?) = (F u).map some) (hn' : va_nd is' = true) (hW : ∀ u, W' (f u) = F u ++ T)
    (hP : va_P G.1 vwCl (E ++ T) st.heap) (hD : va_D (va_A (E ++ T) st.heap.size) (E ++ T)) (h1 : va_P G.1 vwCl (w1 u) t.heap) (h2 : va_D (va_A C st.heap.size) (w1 u)) (h3 : va_F (va_A C st.heap.size) st t) : va_P G.1 vwCl (W' (f u)) t.heap ∧ va_D (va_A (E ++ T) st.heap.size) (W' (f u)) ∧ va_F (va_A (E ++ T) st.heap.size) st t := by
  have hsub : ∀ q, va_A C st.heap.size q → va_A (E ++ T) st.heap.size q := zA_sub (fun q hq => List.mem_append_left _ (z_plm hs q (List.mem_append_right _ hq)))
  obtain ⟨p1, d1⟩ := z_pl hP hD is hs hn
  obtain ⟨p3, d3⟩ := z_frame (zP_perm z_swap p1) (zD_perm z_swap d1) hsub h3 h1 h2
  obtain ⟨p5, d5⟩ := z_pl (zP_perm z_swap p3) (zD_perm z_swap d3) is' (hs' u) hn'
  rw [hW u]
  exact ⟨p5, d5, zF_sub hsub h3⟩
theorem z_liftU {st t : State} {f : S → S'} {u : S} (is : List Nat) (hs : is.map (fun i => E[i]?) = (R ++ C).map some) (hn : va_nd is = true) (hw : ∀ u, w1 u = X u ++ Y u) (is' : List Nat) (hs' : ∀ u, is'.map (fun i => (R ++ X u)[i]?) = (F u).map some) (hn' : va_nd is' = true) (hW : ∀ u, W' (f u) = F u ++ Y u)
    (hP : va_P G.1 vwCl (E ++ T) st.heap) (hD : va_D (va_A (E ++ T) st.heap.size) (E ++ T)) (h1 : va_P G.1 vwCl (w1 u) t.heap) (h2 : va_D (va_A (C ++ T) st.heap.size) (w1 u)) (h3 : va_F (va_A (C ++ T) st.heap.size) st t) : va_P G.1 vwCl (W' (f u)) t.heap ∧ va_D (va_A (E ++ T) st.heap.size) (W' (f u)) ∧ va_F (va_A (E ++ T) st.heap.size) st t := by
  have hsub : ∀ q, va_A (C ++ T) st.heap.size q → va_A (E ++ T) st.heap.size q := zA_sub (fun q hq => by
    rcases List.mem_append.mp hq with h | h
    · exact List.mem_append_left _ (z_plm hs q (List.mem_append_right _ h))
    · exact List.mem_append_right _ h)
  obtain ⟨p1, d1⟩ := z_pl hP hD is hs hn
  rw [List.append_assoc] at p1 d1
  obtain ⟨p3, d3⟩ := z_frame p1 d1 hsub h3 h1 h2
  rw [hw u, ← List.append_assoc] at p3 d3
  obtain ⟨p5, d5⟩ := z_pl p3 d3 is' (hs' u) hn'
  rw [hW u]
  exact ⟨p5, d5, zF_sub hsub h3⟩
theorem z_startT {a : Array Value} {U : State} (is : List Nat) (hs : is.map (fun i => E[i]?) = (R ++ C).map some) (hn : va_nd is = true) (h : zP av G (E ++ T) sz a U) : zP av G C sz a U := by
  obtain ⟨e1, e2, e3, e4, e5⟩ := h
  obtain ⟨p1, d1⟩ := z_pl e3 e5 is hs hn
  exact ⟨e1, e2, zP_right (zP_left p1), e4, zD_right (zD_left d1)⟩
theorem z_startU {a : Array Value} {U : State} (is : List Nat) (hs : is.map (fun i => E[i]?) = (R ++ C).map some) (hn : va_nd is = true) (h : zP av G (E ++ T) sz a U) : zP av G (C ++ T) sz a U := by
  obtain ⟨e1, e2, e3, e4, e5⟩ := h
  obtain ⟨p1, d1⟩ := z_pl e3 e5 is hs hn
  rw [List.append_assoc] at p1 d1
  exact ⟨e1, e2, zP_right p1, e4, zD_right d1⟩
theorem zMi_T {post : Int32 → S → Prop} (h : zMi l y ws rm av G C post w1 sz mc ms) (f : S → S') (is : List Nat) (hs : is.map (fun i => E[i]?) = (R ++ C).map some) (hn : va_nd is = true) (is' : List Nat) (hs' : ∀ u, is'.map (fun i => (R ++ w1 u)[i]?) = (F u).map some) (hn' : va_nd is' = true) (hW : ∀ u, W' (f u) = F u ++ T) : zMi l y ws rm av G (E ++ T) (fun v (D : S') => ∃ u, post v u ∧ D = f u) W' sz mc ms := by
  refine zM_cons h (fun a U hp => z_startT is hs hn hp) (fun a st o t hp hq => ?_) (zA_sub (fun q hq => List.mem_append_left _ (z_plm hs q (List.mem_append_right _ hq))))
  obtain ⟨e1, e2, e3, e4, e5⟩ := hp
  obtain ⟨⟨r, u, q1, q2, q3, q4⟩, q5⟩ := hq
  subst e2
  obtain ⟨p1, p2, p3⟩ := z_liftT (st := st) (f := f) (u := u) (W' := W') is hs hn is' hs' hn' hW e3 e5.self q3 q4 q5
  exact ⟨⟨r, f u, q1, ⟨u, q2, rfl⟩, p1, p2⟩, p3⟩
theorem zMi_U {post : Int32 → S → Prop} (h : zMi l y ws rm av G (C ++ T) post w1 sz mc ms) (f : S → S') (is : List Nat) (hs : is.map (fun i => E[i]?) = (R ++ C).map some) (hn : va_nd is = true) (hw : ∀ u, w1 u = X u ++ Y u) (is' : List Nat) (hs' : ∀ u, is'.map (fun i => (R ++ X u)[i]?) = (F u).map some) (hn' : va_nd is' = true) (hW : ∀ u, W' (f u) = F u ++ Y u) : zMi l y ws rm av G (E ++ T) (fun v (D : S') => ∃ u, post v u ∧ D = f u) W' sz mc ms := by
  refine zM_cons h (fun a U hp => z_startU is hs hn hp) (fun a st o t hp hq => ?_) (zA_sub (fun q hq => (List.mem_append.mp hq).elim (fun h => List.mem_append_left _ (z_plm hs q (List.mem_append_right _ h))) (fun h => List.mem_append_right _ h)))
  obtain ⟨e1, e2, e3, e4, e5⟩ := hp
  obtain ⟨⟨r, u, q1, q2, q3, q4⟩, q5⟩ := hq
  subst e2
  obtain ⟨p1, p2, p3⟩ := z_liftU (st := st) (f := f) (u := u) (W' := W') is hs hn hw is' hs' hn' hW e3 e5.self q3 q4 q5
  exact ⟨⟨r, f u, q1, ⟨u, q2, rfl⟩, p1, p2⟩, p3⟩
theorem zMi_up {post : Int32 → S → Prop} {wr wc : va_W} (h : zMi l y ws rm av G wc post w1 sz mc ms) : zMi l y ws rm av G (wr ++ wc) post (fun u => wr ++ w1 u) sz mc ms := by
  have hsub : ∀ z, ∀ q, va_A wc z q → va_A (wr ++ wc) z q := fun z => zA_sub (fun q hq => List.mem_append_right _ hq)
  refine zM_cons h (fun a U hp => ⟨hp.1, hp.2.1, zP_right hp.2.2.1, hp.2.2.2.1, zD_right hp.2.2.2.2⟩) (fun a st o t hp hq => ?_) (hsub sz)
  obtain ⟨e1, e2, e3, e4, e5⟩ := hp
  obtain ⟨⟨r, u, q1, q2, q3, q4⟩, q5⟩ := hq
  subst e2
  obtain ⟨p1, p2⟩ := z_frame (st := st) e3 e5.self (hsub _) q5 q3 q4
  exact ⟨⟨r, u, q1, q2, p1, p2⟩, zF_sub (hsub _) q5⟩
theorem zMi_post {post : Int32 → S → Prop} {post' : Int32 → S → Prop} {wc : va_W} (h : zMi l y ws rm av G wc post w1 sz mc ms) (hp : ∀ v u, post v u → post' v u) : zMi l y ws rm av G wc post' w1 sz mc ms := by
  refine zM_cons h (fun a U hp => hp) (fun a st o t h0 hq => ?_) (fun q hq => hq)
  obtain ⟨⟨r, u, q1, q2, q3⟩, q5⟩ := hq
  exact ⟨⟨r, u, q1, hp r u q2, q3⟩, q5⟩
theorem zMd_T {post : UInt64 → S → Prop} (h : zMd l y ws rm av G C post w1 sz mc ms) (f : S → S') (is : List Nat) (hs : is.map (fun i => E[i]?) = (R ++ C).map some) (hn : va_nd is = true) (is' : List Nat) (hs' : ∀ u, is'.map (fun i => (R ++ w1 u)[i]?) = (F u).map some) (hn' : va_nd is' = true) (hW : ∀ u, W' (f u) = F u ++ T) : zMd l y ws rm av G (E ++ T) (fun v (D : S') => ∃ u, post v u ∧ D = f u) W' sz mc ms := by
  refine zMD_cons h (fun a U hp => z_startT is hs hn hp) (fun a st d o t hp hq => ?_) (zA_sub (fun q hq => List.mem_append_left _ (z_plm hs q (List.mem_append_right _ hq))))
  obtain ⟨e1, e2, e3, e4, e5⟩ := hp
  obtain ⟨⟨r, u, q1, q2, q3, q4⟩, q5⟩ := hq
  subst e2
  obtain ⟨p1, p2, p3⟩ := z_liftT (st := st) (f := f) (u := u) (W' := W') is hs hn is' hs' hn' hW e3 e5.self q3 q4 q5
  exact ⟨⟨r, f u, q1, ⟨u, q2, rfl⟩, p1, p2⟩, p3⟩
theorem zMd_post {post : UInt64 → S → Prop} {post' : UInt64 → S → Prop} {wc : va_W} (h : zMd l y ws rm av G wc post w1 sz mc ms) (hp : ∀ v u, post v u → post' v u) : zMd l y ws rm av G wc post' w1 sz mc ms := by
  refine zMD_cons h (fun a U hp => hp) (fun a st d o t h0 hq => ?_) (fun q hq => hq)
  obtain ⟨⟨r, u, q1, q2, q3⟩, q5⟩ := hq
  exact ⟨⟨r, u, q1, hp r u q2, q3⟩, q5⟩
end
end LIFT

