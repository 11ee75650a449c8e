/-! THE LAW'S BODY: from a place to a place -/
section LWA
variable {T : ai_T} {G : ai_G} {d mi pc n sl len : Nat} {L : ai_L} {st : List Value} {M : ai_M} {i : Instr} {Z : ai_C → Prop}
theorem ai_one_more {f : Nat} {z z' : ai_C} (h : ai_one T G f d mi z = some z') : ai_one T G (f + 1) d mi z = some z' := by
  obtain ⟨pc, L, st, n, sl, M⟩ := z
  have Rg : ∀ (d' mj na kd : Nat) (z : ai_C), ai_go T mj na kd pc L st n sl M (fun mj vs n sl M => ai_run T G f d' mj 0 (ai_en vs (ai_mx T mj)) [] n sl M) (fun pc L st n sl M => some (pc, L, st, n, sl, M)) = some z → ai_go T mj na kd pc L st n sl M (fun mj vs n sl M => ai_run T G (f + 1) d' mj 0 (ai_en vs (ai_mx T mj)) [] n sl M) (fun pc L st n sl M => some (pc, L, st, n, sl, M)) = some z := by
    intro d' mj na kd z q
    unfold ai_go at q ⊢
    dsimp only at q ⊢
    obtain ⟨h0, q⟩ := ai_if_some q
    rw [if_pos h0]
    split at q
    · rename_i hc
      rw [ai_run_more _ _ _ _ _ _ _ _ _ _ hc]
      exact q
    · cases q
  unfold ai_one at h ⊢
  dsimp only at h ⊢
  split at h
  · cases h
  · rename_i i len hd
    (try rw [hd])
    (try dsimp only)
    split at h
    · rename_i hc
      (try rw [hc])
      exact h
    · cases h
    · rename_i hc
      (try rw [hc])
      exact h
    · rename_i hc
      (try rw [hc])
      obtain ⟨h0, hh⟩ := ai_if_some h
      clear h
      (try dsimp only)
      rw [if_pos h0]
      split at hh
      · cases hh
      · rename_i d'
        exact ai_c_rel (fun a b => ∀ z, a = some z → b = some z) (fun z q => q) (fun z q => q) (fun _ _ _ _ _ _ z q => q) (fun mj na kd z q => Rg d' mj na kd z q) _ _ _ _ _ _ _ _ z' hh
    · exact h
theorem ai_one_le {f g : Nat} {z z' : ai_C} (h : ai_one T G f d mi z = some z') (hg : f ≤ g) : ai_one T G g d mi z = some z' := by
  obtain ⟨k, rfl⟩ := Nat.exists_eq_add_of_le hg
  clear hg
  induction k with
  | zero => exact h
  | succ k ih => exact ai_one_more ih
theorem ai_it_le {f g : Nat} (hg : f ≤ g) : ∀ (k : Nat) (z z' : ai_C), ai_it T G f d mi k z = some z' → ai_it T G g d mi k z = some z' := by
  intro k
  induction k with
  | zero => intro z z' h; exact h
  | succ k ih =>
    intro z z' h
    unfold ai_it at h ⊢
    split at h
    · cases h
    · rename_i z1 h1
      rw [ai_one_le h1 hg]
      exact ih _ _ h
/-- from z the law comes to a place of which Z holds -/
def awi (T : ai_T) (G : ai_G) (d mi : Nat) (z : ai_C) (Z : ai_C → Prop) : Prop := ∃ f k z', ai_it T G f d mi k z = some z' ∧ Z z'
theorem awi_0 {z : ai_C} (h : Z z) : awi T G d mi z Z := ⟨0, 0, z, rfl, h⟩
theorem awi_one {f : Nat} {z z1 : ai_C} (h : ai_one T G f d mi z = some z1) (g : awi T G d mi z1 Z) : awi T G d mi z Z := by
  obtain ⟨f2, k, z', h2, h3⟩ := g
  refine ⟨max f f2, k + 1, z', ?_, h3⟩
  unfold ai_it
  rw [ai_one_le h (Nat.le_max_left _ _)]
  exact ai_it_le (Nat.le_max_right _ _) _ _ _ h2
theorem awi_p (hd : ai_dec T mi pc = some (i, len)) (hc : ai_cls i = 0) (hl : len = ai_len i) (h : ai_p False i pc L st (fun pc L st => awi T G d mi (pc, L, st, n, sl, M) Z)) : awi T G d mi (pc, L, st, n, sl, M) Z := by
  have hq := ai_p_rel (fun (a : Option ai_C) (b : Prop) => b → ∃ z1, a = some z1 ∧ awi T G d mi z1 Z) (ba := none) (bb := False) (fun q => q.elim) (ka := fun pc L st => some (pc, L, st, n, sl, M)) (kb := fun pc L st => awi T G d mi (pc, L, st, n, sl, M) Z) (fun pc L st q => ⟨_, rfl, q⟩) i pc L st h
  obtain ⟨z1, h1, h2⟩ := hq
  refine awi_one (f := 0) ?_ h2
  unfold ai_one
  simp only [hd, hc]
  rw [if_pos hl]
  exact h1
theorem awi_sw (hd : ai_dec T mi pc = some (i, len)) (hc : ai_cls i = 1) (h : ai_sw False i pc L st (fun pc L st => awi T G d mi (pc, L, st, n, sl, M) Z)) : awi T G d mi (pc, L, st, n, sl, M) Z := by
  have hq := ai_sw_rel (fun (a : Option ai_C) (b : Prop) => b → ∃ z1, a = some z1 ∧ awi T G d mi z1 Z) (ba := none) (bb := False) (fun q => q.elim) (ka := fun pc L st => some (pc, L, st, n, sl, M)) (kb := fun pc L st => awi T G d mi (pc, L, st, n, sl, M) Z) (fun pc L st q => ⟨_, rfl, q⟩) i pc L st h
  obtain ⟨z1, h1, h2⟩ := hq
  refine awi_one (f := 0) ?_ h2
  unfold ai_one
  simp only [hd, hc]
  exact h1
theorem awi_m (hd : ai_dec T mi pc = some (i, len)) (hc : ai_cls i = 3) (hl : len = ai_len i) (h : ai_m False False T G (ai_own T mi) (ai_ini T mi) i pc L st n sl M (fun pc L st n sl M => awi T G d mi (pc, L, st, n, sl, M) Z)) : awi T G d mi (pc, L, st, n, sl, M) Z := by
  have hq := ai_m_rel (T := T) (G := G) (fun (a : Option ai_C) (b : Prop) => b → ∃ z1, a = some z1 ∧ awi T G d mi z1 Z) (ba := none) (bb := False) (sa := none) (sb := False) (fun q => q.elim) (fun q => q.elim) (ka := fun pc L st n sl M => some (pc, L, st, n, sl, M)) (kb := fun pc L st n sl M => awi T G d mi (pc, L, st, n, sl, M) Z) (fun pc L st n sl M q => ⟨_, rfl, q⟩) (ai_own T mi) (ai_ini T mi) i pc L st n sl M h
  obtain ⟨z1, h1, h2⟩ := hq
  refine awi_one (f := 0) ?_ h2
  unfold ai_one
  simp only [hd, hc]
  rw [if_pos hl]
  exact h1
theorem awi_call {j mj na : Nat} (hd : ai_dec T mi pc = some (.invokevirtual j, 3)) (hp : ai_pool T (ai_own T mi) j = some (1, mj, na, 0)) (ht : ai_this T n M mj na st = true) (h1 : na + 1 ≤ st.length ∧ ai_sm (st.drop (na + 1)) ≤ 8 ∧ (ai_ar (st.take (na + 1)).reverse).length ≤ ai_mx T mj ∧ ai_mx T mj ≤ 41)
    (h : aw T G d mj 0 (ai_en (st.take (na + 1)).reverse (ai_mx T mj)) [] n sl M (fun r n sl M => awi T G (d + 1) mi (pc + 3, L, r ++ st.drop (na + 1), n, sl, M) Z)) : awi T G (d + 1) mi (pc, L, st, n, sl, M) Z := by
  obtain ⟨f, ⟨pc', L', st', n', sl', M'⟩, r, h2, h3, h4⟩ := h
  refine awi_one (f := f) ?_ h4
  unfold ai_one
  dsimp only at h3
  have hne : ¬ (0 : Nat) = 1 := by decide
  simp only [hd, ai_cls, ai_len, if_true, ai_c, hp, ht, true_or, and_self, ai_go, hne, if_false, h1, h2, h3]
end LWA
