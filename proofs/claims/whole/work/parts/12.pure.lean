/-! THE MACHINE DOES WHAT THE INTERPRETER DOES, I: locals and stack -/
section AIS
def ai_cv (ad : Nat → Nat) : Value → Value
  | .ref k => .ref (ad k)
  | v => v
theorem ai_cv_cat (ad : Nat → Nat) (v : Value) : (ai_cv ad v).category = v.category := by cases v <;> rfl
/-- the locals hold what the interpreter's do -/
def ai_H (ad : Nat → Nat) (ls : Array Slot) (nL : Nat) (L : ai_L) : Prop := L.length = nL ∧ ls.size = nL ∧ lv_wf ls ∧ ∀ (i : Nat) (v : Value), ai_at L i = some v → ls[i]? = some (.val (ai_cv ad v))
def ai_as (ad : Nat → Nat) (L : ai_L) : List (Nat × Value) := (List.range L.length).filterMap (fun j => (ai_at L j).map (fun v => (j, ai_cv ad v)))
theorem ai_at_lt : ∀ {L : ai_L} {i : Nat} {v : Value}, ai_at L i = some v → i < L.length
  | [], _, _, h => by simp [ai_at] at h
  | _ :: _, 0, _, _ => by simp
  | _ :: l, n + 1, v, h => by
    have := ai_at_lt (L := l) (i := n) (v := v) h
    simp; omega
theorem ai_as_mem {ad : Nat → Nat} {L : ai_L} {i : Nat} {v : Value} (h : ai_at L i = some v) : (i, ai_cv ad v) ∈ ai_as ad L := by
  unfold ai_as
  rw [List.mem_filterMap]
  exact ⟨i, List.mem_range.mpr (ai_at_lt h), by rw [h]; rfl⟩
theorem ai_as_of {ad : Nat → Nat} {L : ai_L} {q : Nat × Value} (h : q ∈ ai_as ad L) : ∃ v, ai_at L q.1 = some v ∧ q.2 = ai_cv ad v := by
  unfold ai_as at h
  rw [List.mem_filterMap] at h
  obtain ⟨j, -, hj⟩ := h
  cases hv : ai_at L j with
  | none => rw [hv] at hj; cases hj
  | some v => rw [hv] at hj; cases hj; exact ⟨v, hv, rfl⟩
theorem ai_H.has {ad : Nat → Nat} {ls : Array Slot} {nL : Nat} {L : ai_L} (h : ai_H ad ls nL L) : lv_has ls nL (ai_as ad L) := by
  refine ⟨h.2.1, h.2.2.1, fun q hq => ?_⟩
  obtain ⟨v, h1, h2⟩ := ai_as_of hq
  rw [h2]
  exact h.2.2.2 _ _ h1
theorem ai_set_len : ∀ (L : ai_L) (i : Nat) (v : Value), (ai_set L i v).length = L.length
  | [], _, _ => rfl
  | _ :: _, 0, _ => rfl
  | _ :: [], _ + 1, _ => rfl
  | _ :: _ :: _, 1, _ => rfl
  | a :: b :: l, n + 2, v => by
    have := ai_set_len (b :: l) (n + 1) v
    simp [ai_set, this]
theorem ai_set2_len : ∀ (L : ai_L) (i : Nat) (v : Value), (ai_set2 L i v).length = L.length
  | [], _, _ => rfl
  | _ :: [], 0, _ => rfl
  | _ :: _ :: _, 0, _ => rfl
  | _ :: [], _ + 1, _ => rfl
  | _ :: _ :: [], 1, _ => rfl
  | _ :: _ :: _ :: _, 1, _ => rfl
  | a :: b :: l, n + 2, v => by
    have := ai_set2_len (b :: l) (n + 1) v
    simp [ai_set2, this]
theorem ai_nl_some {a : Option Value} {w : Value} (h : ai_nl a = some w) : a = some w ∧ w.category = 1 := by
  match a, h with
  | some (.int x), h => cases h; exact ⟨rfl, rfl⟩
  | some (.float x), h => cases h; exact ⟨rfl, rfl⟩
  | some .null, h => cases h; exact ⟨rfl, rfl⟩
  | some (.ref x), h => cases h; exact ⟨rfl, rfl⟩
  | some (.retAddr x), h => cases h; exact ⟨rfl, rfl⟩
theorem ai_set_at : ∀ (L : ai_L) (i : Nat) (v : Value) (j : Nat) (w : Value), ai_at (ai_set L i v) j = some w → (j = i ∧ w = v) ∨ (j ≠ i ∧ ai_at L j = some w ∧ ¬ (j + 1 = i ∧ w.category = 2))
  | [], _, _, j, w, h => by simp [ai_set, ai_at] at h
  | _ :: l, 0, v, j, w, h => by
    cases j with
    | zero => simp [ai_set, ai_at] at h; exact Or.inl ⟨rfl, h.symm⟩
    | succ j => simp [ai_set, ai_at] at h; exact Or.inr ⟨by omega, by simpa [ai_at] using h, by omega⟩
  | a :: [], n + 1, v, j, w, h => by
    simp only [ai_set] at h
    cases j with
    | zero =>
      obtain ⟨h1, h2⟩ := ai_nl_some h
      exact Or.inr ⟨by omega, h1, by omega⟩
    | succ j => simp [ai_at] at h
  | a :: b :: l, 1, v, j, w, h => by
    simp only [ai_set] at h
    match j, h with
    | 0, h =>
      simp only [ai_at] at h
      obtain ⟨h1, h2⟩ := ai_nl_some h
      exact Or.inr ⟨by omega, h1, by omega⟩
    | 1, h => simp [ai_at] at h; exact Or.inl ⟨rfl, h.symm⟩
    | j + 2, h => exact Or.inr ⟨by omega, by simpa [ai_at] using h, by omega⟩
  | a :: b :: l, n + 2, v, j, w, h => by
    simp only [ai_set] at h
    cases j with
    | zero => exact Or.inr ⟨by omega, by simpa [ai_at] using h, by omega⟩
    | succ j =>
      simp only [ai_at] at h
      rcases ai_set_at (b :: l) (n + 1) v j w h with ⟨h1, h2⟩ | ⟨h1, h2, h3⟩
      · exact Or.inl ⟨by omega, h2⟩
      · exact Or.inr ⟨by omega, by simpa [ai_at] using h2, by omega⟩
theorem ai_set2_at : ∀ (L : ai_L) (i : Nat) (v : Value) (j : Nat) (w : Value), ai_at (ai_set2 L i v) j = some w → (j = i ∧ w = v) ∨ (j ≠ i ∧ j ≠ i + 1 ∧ ai_at L j = some w ∧ ¬ (j + 1 = i ∧ w.category = 2))
  | [], _, _, j, w, h => by simp [ai_set2, ai_at] at h
  | _ :: [], 0, v, j, w, h => by
    cases j with
    | zero => simp [ai_set2, ai_at] at h; exact Or.inl ⟨rfl, h.symm⟩
    | succ j => simp [ai_set2, ai_at] at h
  | _ :: _ :: l, 0, v, j, w, h => by
    match j, h with
    | 0, h => simp [ai_set2, ai_at] at h; exact Or.inl ⟨rfl, h.symm⟩
    | 1, h => simp [ai_set2, ai_at] at h
    | j + 2, h => simp [ai_set2, ai_at] at h; exact Or.inr ⟨by omega, by omega, by simpa [ai_at] using h, by omega⟩
  | a :: [], n + 1, v, j, w, h => by
    simp only [ai_set2] at h
    cases j with
    | zero =>
      obtain ⟨h1, h2⟩ := ai_nl_some h
      exact Or.inr ⟨by omega, by omega, h1, by omega⟩
    | succ j => simp [ai_at] at h
  | a :: b :: [], 1, v, j, w, h => by
    simp only [ai_set2] at h
    match j, h with
    | 0, h =>
      simp only [ai_at] at h
      obtain ⟨h1, h2⟩ := ai_nl_some h
      exact Or.inr ⟨by omega, by omega, h1, by omega⟩
    | 1, h => simp [ai_at] at h; exact Or.inl ⟨rfl, h.symm⟩
    | j + 2, h => simp [ai_at] at h
  | a :: b :: b2 :: l, 1, v, j, w, h => by
    simp only [ai_set2] at h
    match j, h with
    | 0, h =>
      simp only [ai_at] at h
      obtain ⟨h1, h2⟩ := ai_nl_some h
      exact Or.inr ⟨by omega, by omega, h1, by omega⟩
    | 1, h => simp [ai_at] at h; exact Or.inl ⟨rfl, h.symm⟩
    | 2, h => simp [ai_at] at h
    | j + 3, h => exact Or.inr ⟨by omega, by omega, by simpa [ai_at] using h, by omega⟩
  | a :: b :: l, n + 2, v, j, w, h => by
    simp only [ai_set2] at h
    cases j with
    | zero => exact Or.inr ⟨by omega, by omega, by simpa [ai_at] using h, by omega⟩
    | succ j =>
      simp only [ai_at] at h
      rcases ai_set2_at (b :: l) (n + 1) v j w h with ⟨h1, h2⟩ | ⟨h1, h2, h3, h4⟩
      · exact Or.inl ⟨by omega, h2⟩
      · exact Or.inr ⟨by omega, by omega, by simpa [ai_at] using h3, by omega⟩
theorem ai_H.st1 {ad : Nat → Nat} {ls ls' : Array Slot} {nL i : Nat} {L : ai_L} {v : Value} (h : ai_H ad ls nL L) (h' : lv_has ls' nL ((i, ai_cv ad v) :: (ai_as ad L).filter (fun q => !(q.1 == i) && !(q.1 + 1 == i && q.2.category == 2)))) : ai_H ad ls' nL (ai_set L i v) := by
  refine ⟨(ai_set_len _ _ _).trans h.1, h'.1, h'.2.1, fun j w hj => ?_⟩
  rcases ai_set_at L i v j w hj with ⟨rfl, rfl⟩ | ⟨h1, h2, h3⟩
  · exact h'.2.2 (j, ai_cv ad w) List.mem_cons_self
  · refine h'.2.2 (j, ai_cv ad w) (List.mem_cons_of_mem _ (List.mem_filter.mpr ⟨ai_as_mem h2, ?_⟩))
    simp only [ai_cv_cat]
    simp
    exact ⟨h1, by omega⟩
theorem ai_H.st2 {ad : Nat → Nat} {ls ls' : Array Slot} {nL i : Nat} {L : ai_L} {v : Value} (h : ai_H ad ls nL L) (h' : lv_has ls' nL ((i, ai_cv ad v) :: (ai_as ad L).filter (fun q => !(q.1 == i) && (!(q.1 == i + 1) && !(q.1 + 1 == i && q.2.category == 2))))) : ai_H ad ls' nL (ai_set2 L i v) := by
  refine ⟨(ai_set2_len _ _ _).trans h.1, h'.1, h'.2.1, fun j w hj => ?_⟩
  rcases ai_set2_at L i v j w hj with ⟨rfl, rfl⟩ | ⟨h1, h2, h3, h4⟩
  · exact h'.2.2 (j, ai_cv ad w) List.mem_cons_self
  · refine h'.2.2 (j, ai_cv ad w) (List.mem_cons_of_mem _ (List.mem_filter.mpr ⟨ai_as_mem h3, ?_⟩))
    simp only [ai_cv_cat]
    simp
    exact ⟨h1, h2, by omega⟩
end AIS
