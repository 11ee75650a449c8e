/-! STEP BY STEP, for the law's own body: to any place, not to the return alone -/
section AON
variable {T : ai_T} {G : ai_G}
/-- one instruction (a call with all that it does), with fuel for calls -/
def ai_one (T : ai_T) (G : ai_G) (f d mi : Nat) (z : ai_C) : Option ai_C := match z with
  | (pc, L, st, n, sl, M) => match ai_dec T mi pc with
    | none => none
    | some (i, len) => match ai_cls i with
      | 1 => ai_sw none i pc L st (fun pc L st => some (pc, L, st, n, sl, M))
      | 2 => none
      | 3 => if len = ai_len i then ai_m none none T G (ai_own T mi) (ai_ini T mi) i pc L st n sl M (fun pc L st n sl M => some (pc, L, st, n, sl, M)) else none
      | 4 => if len = ai_len i then (match d with
        | 0 => none
        | d' + 1 => ai_c none none T G (ai_own T mi) i pc L st n sl M (fun mj na kd => ai_go T mj na kd pc L st n sl M (fun mj vs n sl M => ai_run T G f d' mj 0 (ai_en vs (ai_mx T mj)) [] n sl M) (fun pc L st n sl M => some (pc, L, st, n, sl, M))) (fun pc L st n sl M => some (pc, L, st, n, sl, M))) else none
      | _ => if len = ai_len i then ai_p none i pc L st (fun pc L st => some (pc, L, st, n, sl, M)) else none
def ai_it (T : ai_T) (G : ai_G) (f d mi : Nat) : Nat → ai_C → Option ai_C
  | 0, z => some z
  | k + 1, z => match ai_one T G f d mi z with
    | none => none
    | some z' => ai_it T G f d mi k z'
variable {l : Launch} {cl : List vw_C} {cc : Nat → ByteArray} {yn : Nat → MethodName} {on : Nat → String} {tb : List Cond} {D : va_G} {tys : List (ClassId × FieldType)} {ad : Nat → Nat} {aC : Nat → ClassId} {Ex : State → Prop} {base : Nat}
set_option maxHeartbeats 4000000 in
theorem ai_one_sim (hOK : ai_OK l T G cl cc yn on tb D tys ad aC Ex base) {f d mi : Nat} {z z' : ai_C} (h : ai_one T G f d mi z = some z') : z.2.2.2.1 ≤ z'.2.2.2.1 ∧ z.2.2.2.2.1 ≤ z'.2.2.2.2.1 ∧ ∀ (p : Program) (e : Env) (R : Room) (s : State) (m : MethodId) (args : Array Value) (below : List Frame) (meth : Method) (c : Code) (Q : State → Prop) (n0 c0 l0 s0 : Nat), ai_Cx T cl cc on tb D tys Ex base mi p s m args meth c → d ≤ R.frames → 60 * d ≤ R.locals → c0 + z'.2.2.2.1 ≤ R.cells + n0 ∧ s0 + z'.2.2.2.2.1 ≤ R.slots + l0 → ai_Go p l e R s m args below meth c Q D cl ad aC base (ai_mx T mi) n0 c0 l0 s0 G.1 z' → ai_Go p l e R s m args below meth c Q D cl ad aC base (ai_mx T mi) n0 c0 l0 s0 G.1 z := by
  have hsim := ai_sim hOK
  obtain ⟨okM, okL, okS, okH⟩ := hOK
  have hdec := okS.1
  obtain ⟨pc, L, st, n, sl, M⟩ := z
  unfold ai_one at h
  dsimp only at h
  split at h
  · cases h
  · rename_i i len hd
    have hdg := hdec _ _ _ _ hd
    split at h
    · refine ⟨ai_sw_mono (fun _ _ _ q => by cases q; exact Nat.le_refl _) h, ai_sw_mono (fun _ _ _ q => by cases q; exact Nat.le_refl _) h, ?_⟩
      intro p e R s m args below meth c Q n0 c0 l0 s0 hC hfr hlo hroom hgo
      intro H locs ls cells slots e1 e2 hP hS hg hn hl
      exact ai_sw_sim hC.1 hC.2.1 hdg hl (fun pc' L' st' q ls' hl' => by cases q; exact hgo H locs ls' cells slots e1 e2 hP hS hg hn hl') h
    · cases h
    · obtain ⟨hlen, hh⟩ := ai_if_some h
      clear h
      subst hlen
      have h2 : ai_m none (some (pc, L, st, n, sl, M)) T G (ai_own T mi) (ai_ini T mi) i pc L st n sl M (fun pc L st n sl M => some (pc, L, st, n, sl, M)) = some z' := ai_m_rel (fun (a b : Option ai_C) => a = some z' → b = some z') (fun q => q) (fun q => by cases q) (fun _ _ _ _ _ _ q => q) _ _ i pc L st n sl M hh
      refine ⟨ai_m_mono (fun _ _ _ _ _ _ q1 q2 q => by cases q; exact q1) (fun q => by rw [← q]; exact Nat.le_refl _) h2, ai_m_mono (fun _ _ _ _ _ _ q1 q2 q => by cases q; exact q2) (fun q => by rw [← q]; exact Nat.le_refl _) h2, ?_⟩
      intro p e R s m args below meth c Q n0 c0 l0 s0 hC hfr hlo hroom hgo
      exact (ai_m_sim okM okL hC hdg hroom (fun pc' L' st' n' sl' M' q => by cases q; exact ⟨hgo, Nat.le_refl _, Nat.le_refl _⟩) hgo h2).1
    · obtain ⟨hlen, hh⟩ := ai_if_some h
      clear h
      subst hlen
      split at hh
      · cases hh
      · rename_i d'
        have h2 : ai_c none (some (pc, L, st, n, sl, M)) T G (ai_own T mi) i pc L st n sl M (fun mj na kd => ai_go T mj na kd pc L st n sl M (fun mj vs n sl M => ai_run T G f d' mj 0 (ai_en vs (ai_mx T mj)) [] n sl M) (fun pc L st n sl M => some (pc, L, st, n, sl, M))) (fun pc L st n sl M => some (pc, L, st, n, sl, M)) = some z' := ai_c_rel (fun (a b : Option ai_C) => a = some z' → b = some z') (fun q => q) (fun q => by cases q) (fun _ _ _ _ _ _ q => q) (fun _ _ _ q => q) _ i pc L st n sl M hh
        have hcr : ∀ (mj : Nat) (vs : List Value) (n sl : Nat) (M : ai_M) (z : ai_C), ai_run T G f d' mj 0 (ai_en vs (ai_mx T mj)) [] n sl M = some z → n ≤ z.2.2.2.1 ∧ sl ≤ z.2.2.2.2.1 := fun mj vs n sl M z q => ⟨(hsim _ _ _ _ _ _ _ _ _ _ q).1, (hsim _ _ _ _ _ _ _ _ _ _ q).2.1⟩
        refine ⟨ai_c_mono hcr (fun _ _ _ _ _ _ q1 q2 q => by cases q; exact q1) (fun q => by rw [← q]; exact Nat.le_refl _) h2, ai_c_mono hcr (fun _ _ _ _ _ _ q1 q2 q => by cases q; exact q2) (fun q => by rw [← q]; exact Nat.le_refl _) h2, ?_⟩
        intro p e R s m args below meth c Q n0 c0 l0 s0 hC hfr hlo hroom hgo
        exact (ai_c_sim okM okS okH hC hdg hfr hlo hroom (fun mj vs n sl M z q => hsim _ _ _ _ _ _ _ _ _ _ q) (fun pc' L' st' n' sl' M' q => by cases q; exact ⟨hgo, Nat.le_refl _, Nat.le_refl _⟩) hgo h2).1
    · obtain ⟨hlen, hh⟩ := ai_if_some h
      clear h
      subst hlen
      refine ⟨ai_p_mono (fun _ _ _ q => by cases q; exact Nat.le_refl _) hh, ai_p_mono (fun _ _ _ q => by cases q; exact Nat.le_refl _) hh, ?_⟩
      intro p e R s m args below meth c Q n0 c0 l0 s0 hC hfr hlo hroom hgo
      intro H locs ls cells slots e1 e2 hP hS hg hn hl
      exact ai_p_sim hC.1 hC.2.1 hdg hl (fun pc' L' st' q ls' hl' => by cases q; exact hgo H locs ls' cells slots e1 e2 hP hS hg hn hl') hh
theorem ai_it_sim (hOK : ai_OK l T G cl cc yn on tb D tys ad aC Ex base) {f d mi : Nat} : ∀ (k : Nat) (z z' : ai_C), ai_it T G f d mi k z = some z' → z.2.2.2.1 ≤ z'.2.2.2.1 ∧ z.2.2.2.2.1 ≤ z'.2.2.2.2.1 ∧ ∀ (p : Program) (e : Env) (R : Room) (s : State) (m : MethodId) (args : Array Value) (below : List Frame) (meth : Method) (c : Code) (Q : State → Prop) (n0 c0 l0 s0 : Nat), ai_Cx T cl cc on tb D tys Ex base mi p s m args meth c → d ≤ R.frames → 60 * d ≤ R.locals → c0 + z'.2.2.2.1 ≤ R.cells + n0 ∧ s0 + z'.2.2.2.2.1 ≤ R.slots + l0 → ai_Go p l e R s m args below meth c Q D cl ad aC base (ai_mx T mi) n0 c0 l0 s0 G.1 z' → ai_Go p l e R s m args below meth c Q D cl ad aC base (ai_mx T mi) n0 c0 l0 s0 G.1 z := by
  intro k
  induction k with
  | zero =>
    intro z z' h
    cases h
    exact ⟨Nat.le_refl _, Nat.le_refl _, fun p e R s m args below meth c Q n0 c0 l0 s0 hC hfr hlo hroom hgo => hgo⟩
  | succ k ih =>
    intro z z' h
    unfold ai_it at h
    split at h
    · cases h
    · rename_i z1 h1
      obtain ⟨a1, a2, a3⟩ := ai_one_sim hOK h1
      obtain ⟨b1, b2, b3⟩ := ih z1 z' h
      refine ⟨Nat.le_trans a1 b1, Nat.le_trans a2 b2, ?_⟩
      intro p e R s m args below meth c Q n0 c0 l0 s0 hC hfr hlo hroom hgo
      exact a3 p e R s m args below meth c Q n0 c0 l0 s0 hC hfr hlo ⟨by omega, by omega⟩ (b3 p e R s m args below meth c Q n0 c0 l0 s0 hC hfr hlo hroom hgo)
end AON
