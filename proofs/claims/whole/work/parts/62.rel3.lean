/-! ===== both sides together: what holds before and behind each call of the law ===== -/
section REL3
def relA (B : Nat) (D : zDc) (M : zRd) : Prop := D.2.1.1 = M.1.1 ∧ M.1.1 ≤ 6 ∧ relV B M.1.1 D.2.1.2 M.1.2 ∧ relT B D.2.2.1 M.2.1.1 ∧ okE D.2.2.2.1 ∧ D.2.2.2.2 = M.2.2.1 ∧ M.2.2.1.1 ≤ 60
section
variable {B kn ln tm kp pl tm' kp' pl' : Nat} {pp pp' : Nat → Nat → Nat} {SS : Nat → zSt} {S9 : zSt} {E E' : zE} {s9 a9 l9 f9 t9 a' l' f' : zF} {sv : Nat → zF} {th wr th' wr' : Int32}
theorem relA_q (h : relA B (pp, (kn, SS), S9, E, (ln, t9)) ((kn, sv), (s9, a9), (ln, t9), (tm, l9), (kp, f9), (pl, wr), th)) (hE : okE E') : relA (B + 6200) (pp', (kn, SS), S9, E', (ln, t9)) ((kn, sv), (s9, a'), (ln, t9), (tm', l'), (kp', f'), (pl', wr'), th') :=
  ⟨rfl, h.2.1, relV_mono h.2.2.1 (Nat.le_add_right _ _), relT_mono h.2.2.2.1 (Nat.le_add_right _ _), hE, rfl, h.2.2.2.2.2.2⟩
/-- a call that saves first -/
theorem relA_n {u : Nat × (Nat → zSt)} {v : Nat × (Nat → zF)} {B' : Nat} {S' : zSt} {s' : zF} (h : relA B (pp, (kn, SS), S9, E, (ln, t9)) ((kn, sv), (s9, a9), (ln, t9), (tm, l9), (kp, f9), (pl, wr), th)) (hu : u = svK kn SS S9) (hv : v = svF kn sv s9) (hs : relT B' S' s') (hB : B' ≤ B + 6200) (hE : okE E') {ln' : Nat} (hl : ln' ≤ 60) :
    relA (B + 6200) (pp', (u.1, u.2), S', E', (ln', t9)) ((v.1, v.2), (s', a'), (ln', t9), (tm', l'), (kp', f'), (pl', wr'), th') := by
  obtain ⟨e1, e2, e3⟩ := T_save h.2.2.1 h.2.2.2.1 h.2.1 u v hu hv
  exact ⟨e1, e2, relV_mono e3 (Nat.le_add_right _ _), relT_mono hs hB, hE, rfl, hl⟩
theorem relA_s (h : relA B (pp, (kn, SS), S9, E, (ln, t9)) ((kn, sv), (s9, a9), (ln, t9), (tm, l9), (kp, f9), (pl, wr), th)) : kn ≤ 6 ∧ relV B kn SS sv ∧ relT B S9 s9 ∧ okE E ∧ ln ≤ 60 := ⟨h.2.1, h.2.2.1, h.2.2.2.1, h.2.2.2.2.1, h.2.2.2.2.2.2⟩
end
theorem relA_split {B : Nat} {pp : Nat → Nat → Nat} {sc tn kn ln tm kp pl : Nat} {SS : Nat → zSt} {S9 : zSt} {E : zE} {t9 s9 a9 l9 f9 tt : zF} {sv : Nat → zF} {th wr : Int32} (h : relA B (pp, (sc, SS), S9, E, (tn, t9)) ((kn, sv), (s9, a9), (ln, tt), (tm, l9), (kp, f9), (pl, wr), th)) : sc = kn ∧ tn = ln ∧ t9 = tt := by
  have e : (tn, t9) = (ln, tt) := h.2.2.2.2.2.1
  exact ⟨h.1, congrArg Prod.fst e, congrArg Prod.snd e⟩
theorem z_rng {x hi : Int32} {n : Nat} (hh : hi = nI n) (hn : n < 1000) (h0 : 0 ≤ x) (h1 : x ≤ hi) : ∃ k, k ≤ n ∧ x = nI k := by
  obtain ⟨k, hk, e⟩ := dg_of (a := 0) (b := n) nI_0.symm hh (Nat.zero_le _) hn h0 h1
  exact ⟨k, by omega, by rw [e, Nat.zero_add]⟩
theorem z_rng1 {x lo hi : Int32} {a n : Nat} (hl : lo = nI a) (hh : hi = nI n) (ha : a ≤ n) (hn : n < 1000) (h0 : lo ≤ x) (h1 : x ≤ hi) : ∃ k, a ≤ k ∧ k ≤ n ∧ x = nI k := by
  obtain ⟨k, hk, e⟩ := dg_of (a := a) (b := n) hl hh ha hn h0 h1
  exact ⟨a + k, by omega, hk, e⟩
/-- a call that may throw, and the reference's: what both leave -/
def crW (l : Launch) (G : zG) (ad : zAd) (q : Nat) (d : Nat → Nat) (D : zDc) (M : zRd) (ov : Nat → Int64) (B : Nat) (yw : MethodName) (ww : List Cond) (ym : MethodName) (wm : List Cond) (av1 av2 : List Value) : Prop :=
  ∃ (postc : Int32 → zDc × (Nat → Int64) → Prop) (postm : Int32 → zRd → Prop) (rm : Room), (∀ z, zMe l yw ww zRW av1 G (wO G q ov ++ wCl G ad D) postc (fun u => wO G q u.2 ++ wCl G ad u.1) z 1 6) ∧
    (rm.cells = 0 ∧ rm.slots = 0 ∧ rm.frames + 1 ≤ 12 ∧ rm.locals ≤ 380) ∧ (∀ z, zMi l ym wm rm av2 G (wMd G d M) postm (fun M' => wMd G d M') z 0 0) ∧
    ∀ v u r M', postc v u → postm r M' → M'.2.2.2.2.2.2 = v ∧ (v = 0 → u.2 0 = r.toInt64) ∧ relA (B + 6200) u.1 M'
def crG (l : Launch) (G : zG) (ad : zAd) (d : Nat → Nat) (D : zDc) (M : zRd) (B : Nat) (yc : MethodName) (wc : List Cond) (ym : MethodName) (wm : List Cond) : Prop :=
  ∃ (postc : Int32 → zDc → Prop) (postm : Int32 → zRd → Prop) (rc rm : Room), (∀ z, zMi l yc wc rc [.ref ad.2.2.1] G (wCl G ad D) postc (fun D' => wCl G ad D') z 0 0) ∧
    (rc.cells = 0 ∧ rc.slots = 0 ∧ rc.frames + 1 ≤ 12 ∧ rc.locals ≤ 380) ∧ (∀ z, zMi l ym wm rm [.ref (d 0)] G (wMd G d M) postm (fun M' => wMd G d M') z 0 0) ∧ (rm.cells = 0 ∧ rm.slots = 0 ∧ rm.frames + 1 ≤ 12 ∧ rm.locals ≤ 380) ∧
    ∀ v D' r M', postc v D' → postm r M' → v = r ∧ relA (B + 6200) D' M'
def crL (l : Launch) (G : zG) (ad : zAd) (d : Nat → Nat) (D : zDc) (M : zRd) (B : Nat) (yc : MethodName) (wc : List Cond) (ym : MethodName) (wm : List Cond) : Prop :=
  ∃ (postc : Int64 → zDc → Prop) (postm : Int64 → zRd → Prop) (rc rm : Room), (∀ z, zMl l yc wc rc [.ref ad.2.2.1] G (wCl G ad D) postc (fun D' => wCl G ad D') z 0 0) ∧
    (rc.cells = 0 ∧ rc.slots = 0 ∧ rc.frames + 1 ≤ 12 ∧ rc.locals ≤ 380) ∧ (∀ z, zMl l ym wm rm [.ref (d 0)] G (wMd G d M) postm (fun M' => wMd G d M') z 0 0) ∧ (rm.cells = 0 ∧ rm.slots = 0 ∧ rm.frames + 1 ≤ 12 ∧ rm.locals ≤ 380) ∧
    ∀ v D' r M', postc v D' → postm r M' → v = r ∧ relA (B + 6200) D' M'
def crD (l : Launch) (G : zG) (ad : zAd) (d : Nat → Nat) (D : zDc) (M : zRd) (B : Nat) (yc : MethodName) (wc : List Cond) (ym : MethodName) (wm : List Cond) : Prop :=
  ∃ (postc : UInt64 → zDc → Prop) (postm : UInt64 → zRd → Prop) (rc rm : Room), (∀ z, zMd l yc wc rc [.ref ad.2.2.1] G (wCl G ad D) postc (fun D' => wCl G ad D') z 0 0) ∧
    (rc.cells = 0 ∧ rc.slots = 0 ∧ rc.frames + 1 ≤ 12 ∧ rc.locals ≤ 380) ∧ (∀ z, zMd l ym wm rm [.ref (d 0)] G (wMd G d M) postm (fun M' => wMd G d M') z 0 0) ∧ (rm.cells = 0 ∧ rm.slots = 0 ∧ rm.frames + 1 ≤ 12 ∧ rm.locals ≤ 380) ∧
    ∀ v D' r M', postc v D' → postm r M' → (∃ n k, shP n k v ∧ shP n k r) ∧ relA (B + 6200) D' M'
/-- a caught throw's contract, in the words of a call that goes well -/
theorem zMe_map {S S' : Type} {post : Int32 → S → Prop} {post' : Int32 → S' → Prop} {w1 : S → va_W} {w1' : S' → va_W} {l : Launch} {y : MethodName} {ws : List Cond} {rm : Room} {av : List Value} {G : zG} {wc : va_W} {sz mc ms : Nat} (h : zMe l y ws rm av G wc post w1 sz mc ms) (f : S → S') (hp : ∀ v u, post v u → post' v (f u)) (hw : ∀ u, w1' (f u) = w1 u) : zMe l y ws rm av G wc post' w1' sz mc ms := by
  refine zM_cons h (fun _ _ a => a) (fun a st o t h0 hq => ?_) (fun _ a => a)
  obtain ⟨⟨r, u, q1, q2, q3⟩, q5⟩ := hq
  exact ⟨⟨r, f u, q1, hp r u q2, by show va_P G.1 vwCl (w1' (f u)) t.heap ∧ va_D (va_A wc sz) (w1' (f u)); rw [hw u]; exact q3⟩, q5⟩
end REL3
