/-! ===== what the law's cases stand on ===== -/
section LAW1
/-- what holds all along the law's loop -/
def lwX (p : Program) (s : State) (m : MethodId) (c : Code) (bs L : Nat) (xs : Nat → Int32) (G : zG) (A : Nat → Prop) : Prop :=
  p.tables.exec = Jvm.exec ∧ c.code = cL_law ∧ c.maxLocals = 9 ∧ s.vm.findClass RL = some m.cls ∧ (∀ w ∈ wsL_law, w.before #[Value.ref bs] s = true) ∧ va_X bs L xs s s.heap ∧ bs < s.heap.size ∧ ¬ A bs ∧ zK G s ∧ zX A s s.heap ∧ zNc s ∧ (∀ q, s.heap.size ≤ q → A q) ∧ L ≤ 2560
theorem lwX.drawn {p : Program} {s : State} {m : MethodId} {c : Code} {bs L : Nat} {xs : Nat → Int32} {G : zG} {A : Nat → Prop} (d0 : Drawn) (h : lwX p s m c bs L xs G A) : lwX p (s.setDrawn d0) m c bs L xs G A := by
  obtain ⟨h1, h2, h3, h4, h5, h6, h7, h8, h9, h10, h11, h12, h13⟩ := h
  exact ⟨h1, h2, h3, h4, dr_words h5 d0, h6, h7, h8, h9, h10, h11, h12, h13⟩
theorem kM_th (l : Launch) (G : zG) (sz : Nat) (d : Nat → Nat) (M : zRd) : zMi l yX6_thrown wsX6_thrown ({ frames := 0, cells := 0, slots := 0, locals := 0 } : Room) [.ref (d 0)] G (wMd G d M) (fun (v : Int32) (M' : zRd) => M.2.2.2.2.2.2 = v ∧ M = M') (fun M' => wMd G d M') sz 0 0 := by
  obtain ⟨⟨kn, sv⟩, ⟨s9, a9⟩, ⟨ln, tt⟩, ⟨tm, l9⟩, ⟨kp, f9⟩, ⟨pl, wr⟩, th⟩ := M
  refine zMi_post (kM_thrown l G sz d kn ln tm kp pl th wr s9 a9 l9 f9 tt sv) (fun v M' h => ?_)
  obtain ⟨u, h1, h2⟩ := h
  exact ⟨h1.symm, h2.symm⟩
theorem zP_asc {D : va_G} {cl : List vw_C} {X Y Z : va_W} {H : Heap} (h : va_P D cl ((X ++ Y) ++ Z) H) : va_P D cl (X ++ (Y ++ Z)) H := by
  rw [← List.append_assoc]
  exact h
theorem z_cmp0 {x y : Int64} (h : x = y) : lg_cmp x y = 0 := by
  subst h
  unfold lg_cmp
  rw [if_neg (fun z => Int64.lt_irrefl z), if_pos rfl]
section
variable {p : Program} {l : Launch} {e : Env} {R0 : Room} {s : State} {m : MethodId} {args : Array Value} {below : List Frame} {meth : Method} {c : Code} {H : Heap} {locs : List Loc} {cells slots : Nat} {Q : State → Prop}
variable {pc : Nat} {ls : Array Slot} {rest st0 : List Value} {G : zG} {A : Nat → Prop} {R C : va_W} {H0 : Heap} {mc ms : Nat} {a : Array Value} {d0 : Drawn}
theorem z_calldR {S : Type} {post : UInt64 → S → Prop} {w1 : S → va_W} (hd0 : s.drawn.sameBut d0 lw_cs) (hr : va_RunD lw_cs p l e R0 (s.setDrawn d0) m args below meth c H locs cells slots mc ms (F0 m pc ls st0) rest (va_Qd post (fun u t => va_P G.1 vwCl (w1 u) t.heap ∧ va_D (va_A C H.size) (w1 u)) (va_A C H.size) a) (va_A C H.size))
    (hP : va_P G.1 vwCl (R ++ C) H) (hD : va_D A (R ++ C)) (hS : va_S A H0 H locs) (hA : ∀ q, H0.size ≤ q → A q)
    (kk : ∀ (r : UInt64) (u : S) (H1 : Heap) (locs1 : List Loc) (d1 : Drawn), s.drawn.sameBut d1 lw_cs → post r u → va_P G.1 vwCl (R ++ w1 u) H1 → va_D A (R ++ w1 u) → va_S A H0 H1 locs1 → W p l e R0 (s.setDrawn d1) m args below meth c H1 locs1 (cells + mc) (slots + ms) Q (F0 m (pc + 3) ls (.double r :: rest))) : W p l e R0 (s.setDrawn d0) m args below meth c H locs cells slots Q (F0 m pc ls st0) := by
  have hF := z_freeX hD hS hA
  refine va_calldD hd0 hr hS (fun q _ h => hF q h) hF (fun r u t H1 locs1 ht hvm hw hB hz1 hk1 hS1 d1 hd1 => ?_)
  obtain ⟨hP1, hD1⟩ := hB
  rw [ht] at hP1
  obtain ⟨hP2, hD2⟩ := z_joinX hP hD hk1 hF hP1 hD1
  exact kk r u H1 locs1 d1 hd1 hw hP2 hD2 hS1
theorem z_calldL {S : Type} {post : UInt64 → S → Prop} {w1 : S → va_W} (hd0 : s.drawn.sameBut d0 lw_cs) (hr : va_RunD lw_cs p l e R0 (s.setDrawn d0) m args below meth c H locs cells slots mc ms (F0 m pc ls st0) rest (va_Qd post (fun u t => va_P G.1 vwCl (w1 u) t.heap ∧ va_D (va_A C H.size) (w1 u)) (va_A C H.size) a) (va_A C H.size))
    (hP : va_P G.1 vwCl (C ++ R) H) (hD : va_D A (C ++ R)) (hS : va_S A H0 H locs) (hA : ∀ q, H0.size ≤ q → A q)
    (kk : ∀ (r : UInt64) (u : S) (H1 : Heap) (locs1 : List Loc) (d1 : Drawn), s.drawn.sameBut d1 lw_cs → post r u → va_P G.1 vwCl (w1 u ++ R) H1 → va_D A (w1 u ++ R) → va_S A H0 H1 locs1 → W p l e R0 (s.setDrawn d1) m args below meth c H1 locs1 (cells + mc) (slots + ms) Q (F0 m (pc + 3) ls (.double r :: rest))) : W p l e R0 (s.setDrawn d0) m args below meth c H locs cells slots Q (F0 m pc ls st0) :=
  z_calldR hd0 hr (zP_perm List.perm_append_comm hP) (zD_perm List.perm_append_comm hD) hS hA (fun r u H1 locs1 d1 hd1 h1 h2 h3 h4 => kk r u H1 locs1 d1 hd1 h1 (zP_perm List.perm_append_comm h2) (zD_perm List.perm_append_comm h3) h4)
end
/-- a NaN is unordered -/
theorem nan_cmp {v : UInt64} (h : isNaN64 v = true) : FP.dcmp v v = none := by
  have h1 := isNaN64_iff.mp h
  rw [show (0x7fffffffffffffff : Nat) = 2 ^ 63 - 1 from rfl, Nat.and_two_pow_sub_one_eq_mod] at h1
  have h1 : 9218868437227405312 < v.toNat % 9223372036854775808 := h1
  have hE : FP.Core.fieldE FP.Core.b64 v.toNat = FP.Core.Fmt.exps FP.Core.b64 - 1 := by
    show v.toNat / 4503599627370496 % 2048 = 2047
    omega
  have hT : ¬ FP.Core.fieldT FP.Core.b64 v.toNat = 0 := by
    show ¬ v.toNat % 4503599627370496 = 0
    omega
  have hd : FP.Core.decode FP.Core.b64 v.toNat = .nan := by
    unfold FP.Core.decode
    rw [if_pos hE, if_neg hT]
  show FP.Core.order (FP.Core.decode FP.Core.b64 v.toNat) (FP.Core.decode FP.Core.b64 v.toNat) = none
  rw [hd]
  rfl
theorem cmp_own (v : UInt64) : FP.dcmp v v = none ∨ FP.dcmp v v = some .eq := by
  show FP.Core.order (FP.Core.decode FP.Core.b64 v.toNat) (FP.Core.decode FP.Core.b64 v.toNat) = none ∨ FP.Core.order (FP.Core.decode FP.Core.b64 v.toNat) (FP.Core.decode FP.Core.b64 v.toNat) = some .eq
  have e : ∀ x : Int, compare x x = .eq := fun x => by simp [compare, compareOfLessAndEq]
  cases FP.Core.decode FP.Core.b64 v.toNat with
  | nan => exact Or.inl rfl
  | inf t => exact Or.inr (congrArg some (e _))
  | fin t c q => exact Or.inr (congrArg some (e _))
theorem nan_ne {v : UInt64} (h : FP.dcmp v v = none) : ¬ Op.cmpValue (FP.dcmp v v) CmpOp.l = 0 := by
  rw [h]
  decide
theorem alike_cases {x y : UInt64} (h : alike64 x y = true) : x = y ∨ (isNaN64 x = true ∧ isNaN64 y = true) := by
  unfold alike64 at h
  rcases (Bool.or_eq_true _ _).mp h with h | h
  · exact Or.inl (of_decide_eq_true h)
  · exact Or.inr ((Bool.and_eq_true _ _).mp h)
/-- two shares of the same numbers: equal, or both are no numbers -/
theorem sh_nan {n k : Int32} {v r : UInt64} (h1 : shP n k v) (h2 : shP n k r) (h : ¬ Op.cmpValue (FP.dcmp v r) CmpOp.l = 0) : FP.dcmp v v = none ∧ FP.dcmp r r = none := by
  have same : v = r → FP.dcmp v v = none ∧ FP.dcmp r r = none := by
    intro z
    subst z
    rcases cmp_own v with z | z
    · exact ⟨z, z⟩
    · rw [z] at h
      exact absurd rfl h
  rcases h1 with ⟨a1, a2⟩ | ⟨a1, a2⟩
  · rcases h2 with ⟨b1, b2⟩ | ⟨b1, b2⟩
    · exact same (a2.trans b2.symm)
    · exact absurd a1 b1
  · rcases h2 with ⟨b1, b2⟩ | ⟨b1, b2⟩
    · exact absurd b1 a1
    · rcases alike_cases a2 with c1 | ⟨c1, c2⟩
      · rcases alike_cases b2 with c3 | ⟨c3, c4⟩
        · exact same (c1.trans c3.symm)
        · rw [← c1] at c4
          exact ⟨nan_cmp c4, nan_cmp c3⟩
      · rcases alike_cases b2 with c3 | ⟨c3, c4⟩
        · rw [← c3] at c2
          exact ⟨nan_cmp c1, nan_cmp c2⟩
        · exact ⟨nan_cmp c1, nan_cmp c3⟩
theorem z_m31 (x : Int32) : ∃ k, k < 32 ∧ x &&& 31 = nI k := by
  have e : x = nI x.toBitVec.toNat := by
    apply Int32.toBitVec_inj.1
    show x.toBitVec = BitVec.ofNat 32 x.toBitVec.toNat
    simp
  refine ⟨x.toBitVec.toNat % 32, Nat.mod_lt _ (by omega), ?_⟩
  apply Int32.toBitVec_inj.1
  show x.toBitVec &&& 31#32 = BitVec.ofNat 32 (x.toBitVec.toNat % 32)
  apply BitVec.eq_of_toNat_eq
  rw [BitVec.toNat_and, BitVec.toNat_ofNat]
  show x.toBitVec.toNat &&& 31 = x.toBitVec.toNat % 32 % 2 ^ 32
  rw [show (31 : Nat) = 2 ^ 5 - 1 from rfl, Nat.and_two_pow_sub_one_eq_mod]
  omega
end LAW1
