/-! THE START: the relation holds -/
section LWF
variable {L : Nat} {xs : Nat → Int32} {D : va_G} {cl : List vw_C} {ad : Nat → Nat} {aC : Nat → ClassId} {H : Heap} {M : ai_M}
theorem eqV_eq {a b : Value} (h : eqV a b = true) : a = b := by
  unfold eqV at h
  split at h
  · rw [decide_eq_true_eq] at h; rw [h]
  · rw [decide_eq_true_eq] at h; rw [h]
  · rw [decide_eq_true_eq] at h; rw [h]
  · cases h
theorem eqVs_eq : ∀ (l m : List Value), eqVs l m = true → l = m
  | [], [], _ => rfl
  | [], _ :: _, h => by cases h
  | _ :: _, [], h => by cases h
  | a :: l, b :: m, h => by
    unfold eqVs at h
    rw [Bool.and_eq_true] at h
    rw [eqV_eq h.1, eqVs_eq l m h.2]
theorem eqL_eq : ∀ (l m : ai_L), eqL l m = true → l = m
  | [], [], _ => rfl
  | [], _ :: _, h => by cases h
  | none :: _, [], h => by cases h
  | some _ :: _, [], h => by cases h
  | none :: l, none :: m, h => by
    unfold eqL at h
    rw [eqL_eq l m h]
  | some a :: l, some b :: m, h => by
    unfold eqL at h
    rw [Bool.and_eq_true] at h
    rw [eqV_eq h.1, eqL_eq l m h.2]
  | none :: _, some _ :: _, h => by cases h
  | some _ :: _, none :: _, h => by cases h
theorem arrV_cg {cA : ClassId} {N : Nat} {f g : Nat → Value} (h : ∀ j, j < N → f j = g j) : arrV cA N f = arrV cA N g := by
  unfold arrV
  have : (fun j : Fin N => f j.val) = (fun j : Fin N => g j.val) := by
    funext j
    exact h j.val j.isLt
  rw [this]
theorem all_lt {N : Nat} {p : Nat → Bool} (h : (List.range N).all p = true) : ∀ j, j < N → p j = true := fun j hj => List.all_eq_true.mp h j (List.mem_range.mpr hj)
theorem eqA_cell {cA : ClassId} {a b : vp_A} (h : eqA a b = true) : vp_cell cA (a.1, ai_cx ad a.2) = vp_cell cA (b.1, ai_cx ad b.2) := by
  unfold eqA at h
  split at h
  · rename_i N f N' g
    rw [Bool.and_eq_true, decide_eq_true_eq] at h
    obtain ⟨rfl, h⟩ := h
    show arrV cA N (fun j => .int (f j)) = arrV cA N (fun j => .int (g j))
    exact arrV_cg (fun j hj => by rw [of_decide_eq_true (all_lt h j hj)])
  · rename_i N f N' g
    rw [Bool.and_eq_true, decide_eq_true_eq] at h
    obtain ⟨rfl, h⟩ := h
    show arrV cA N (fun j => .long (f j)) = arrV cA N (fun j => .long (g j))
    exact arrV_cg (fun j hj => by rw [of_decide_eq_true (all_lt h j hj)])
  · rename_i N f N' g
    rw [Bool.and_eq_true, decide_eq_true_eq] at h
    obtain ⟨rfl, h⟩ := h
    show arrV cA N (fun j => va_rf ((f j).map ad)) = arrV cA N (fun j => va_rf ((g j).map ad))
    exact arrV_cg (fun j hj => by rw [of_decide_eq_true (all_lt h j hj)])
  · cases h
theorem eqE_at {a b : va_E} {q : Nat} (h : eqE a b = true) (hP : va_at D cl (q, ai_ce ad aC a) H) : va_at D cl (q, ai_ce ad aC b) H := by
  unfold eqE at h
  split at h
  · rename_i c a c' b
    rw [Bool.and_eq_true, decide_eq_true_eq] at h
    obtain ⟨rfl, h⟩ := h
    show H[q]? = some (vp_cell (aC c) (b.1, ai_cx ad b.2))
    rw [← eqA_cell (ad := ad) h]
    exact hP
  · rename_i c fs c' fs'
    rw [Bool.and_eq_true, decide_eq_true_eq] at h
    obtain ⟨rfl, h⟩ := h
    rw [← eqVs_eq _ _ h]
    exact hP
  · cases h
theorem world_eq {n : Nat} {M' : ai_M} (h : ∀ k, k < n → eqE (M k) (M' k) = true) (hP : va_P D cl (ai_w ad aC n M) H) : va_P D cl (ai_w ad aC n M') H := by
  intro k q hk
  have hkn : k < n := by
    have := (List.getElem?_eq_some_iff.mp hk).1
    simpa [ai_w] using this
  rw [ai_w_get hkn] at hk
  cases hk
  exact eqE_at (h k hkn) (hP k _ (ai_w_get hkn))
theorem pre_get (L : Nat) (xs : Nat → Int32) : ∃ M, pre0 L xs = some (23, lL 0 [none, none, none], [], 231, 8132, M) ∧ ∀ k, k < 231 → eqE (M k) (mem X00 Y00 k) = true := by
  have h := pre_ok L xs
  cases hp : pre0 L xs with
  | none => rw [hp] at h; cases h
  | some z =>
    obtain ⟨pc, Lo, st, n, sl, M⟩ := z
    rw [hp] at h
    unfold preOk at h
    simp only [Bool.and_eq_true, decide_eq_true_eq] at h
    obtain ⟨h1, h2, h3, h4, h5, h6⟩ := h
    subst h1 h4 h5
    have e2 := eqL_eq _ _ h2
    have e3 : st = [] := List.eq_nil_of_length_eq_zero h3
    subst e2 e3
    exact ⟨M, rfl, all_lt h6⟩
theorem z201 {j : Nat} (h : ¬ j = 3) : X00 201 j = 0 := by
  show (if j = 3 then (10 : Int32) else 0) = 0
  rw [if_neg h]
theorem WW_0 : WW 0 X00 Y00 := by
  have t1 : ∀ j, j < 940 → 0 < 256 ∧ X00 1 j = bI 0 := fun j _ => ⟨by decide, by show (0 : Int32) = bI 0; decide⟩
  have t2 : ∀ j, j < 940 → 0 < 256 ∧ X00 200 j = bI 0 := fun j _ => ⟨by decide, by show (0 : Int32) = bI 0; decide⟩
  have bz : ∀ p, p < 8 → b01 (bit (nI 0) (nI p) = 1) = nI 0 := fun p hp => b01_z hp
  refine ⟨⟨0, fun _ => 0, by omega, rfl, rfl, t1, t2⟩, rfl, rfl, ⟨0, by omega, rfl, rfl, fun i hi => absurd hi (by omega)⟩, ⟨0, ⟨by omega, Or.inr ⟨rfl, rfl⟩⟩, ⟨by omega, Or.inr ⟨rfl, rfl⟩⟩, fun q hq => absurd hq (by omega)⟩, ⟨0, ⟨by omega, Or.inr ⟨rfl, rfl⟩⟩, ⟨by omega, Or.inr ⟨rfl, rfl⟩⟩, fun q hq => absurd hq (by omega)⟩, Or.inl ⟨rfl, rfl⟩, ⟨rfl, Or.inl rfl⟩, fun k _ => rfl, ⟨rfl, Or.inl rfl⟩, ⟨rfl, Or.inl rfl⟩, ?_, ⟨0, 0, by omega, by omega, rfl, rfl, rfl, ⟨by omega, fun c hc => absurd hc (by omega)⟩, fun j hj => absurd hj (by omega)⟩⟩
  refine ⟨0, 0, fun _ => [], ?_, ?_, ?_, ?_, ⟨fun q hq => absurd hq (by omega), fun q hq => absurd hq (by omega), fun q hq => absurd hq (by omega), fun q hq => absurd hq (by omega)⟩, Or.inl ⟨rfl, z201 (by omega)⟩⟩
  · refine ⟨by omega, by omega, rfl, rfl, rfl, rfl, rfl, rfl, fun p hp => absurd hp (by omega), fun p hp => absurd hp (by omega), fun p hp => ?_, fun p hp => ?_, fun p hp => absurd hp (by omega), fun p hp => absurd hp (by omega), fun p hp => absurd hp (by omega)⟩
    · rw [z201 (by omega)]; exact (bz p hp).symm
    · rw [z201 (by omega)]; exact (bz p hp).symm
  · exact ⟨⟨0, by omega, rfl⟩, ⟨10, by omega, by omega, rfl⟩, fun p hp => absurd hp (by omega), fun p hp => absurd hp (by omega), fun p hp => absurd hp (by omega), fun p hp => absurd hp (by omega), fun p hp => absurd hp (by omega)⟩
  · refine ⟨⟨z201 (by omega), z201 (by omega), z201 (by omega), z201 (by omega), fun p hp => z201 (by omega), fun p hp => z201 (by omega), fun p hp => ?_, fun p hp => z201 (by omega), fun p hp => z201 (by omega), fun p hp => z201 (by omega), fun p hp => z201 (by omega), fun p hp => z201 (by omega)⟩, ?_⟩
    · rw [z201 (by omega)]; exact (bz p hp).symm
    · rw [z201 (by omega)]
      exact (rsum_0 (f := lv X00 61 3) (fun p _ => rfl)).symm
  · exact ⟨fun i _ => ⟨0, by omega, rfl⟩, fun p _ => ⟨0, by omega, rfl⟩, fun p _ => ⟨0, by omega, rfl⟩, fun p _ => ⟨0, by omega, rfl⟩, ⟨0, by omega, rfl⟩⟩
end LWF
