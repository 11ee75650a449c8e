/-! THE MACHINE DOES WHAT THE INTERPRETER DOES, III: cells -/
section AIW
def ai_cx (ad : Nat → Nat) (x : (Nat → Int32) ⊕ (Nat → Int64) ⊕ (Nat → UInt32) ⊕ (Nat → UInt64) ⊕ (Nat → Option Nat)) : (Nat → Int32) ⊕ (Nat → Int64) ⊕ (Nat → UInt32) ⊕ (Nat → UInt64) ⊕ (Nat → Option Nat) := match x with
  | .inr (.inr (.inr (.inr f))) => .inr (.inr (.inr (.inr (fun i => (f i).map ad))))
  | y => y
def ai_ce (ad : Nat → Nat) (aC : Nat → ClassId) : va_E → va_E
  | .inl (k, N, x) => .inl (aC k, N, ai_cx ad x)
  | .inr (ci, fs) => .inr (ci, fs.map (ai_cv ad))
/-- the interpreter's memory as a world of cells -/
def ai_w (ad : Nat → Nat) (aC : Nat → ClassId) (n : Nat) (M : ai_M) : va_W := (List.range n).map (fun k => (ad k, ai_ce ad aC (M k)))
theorem ai_w_get {ad : Nat → Nat} {aC : Nat → ClassId} {n : Nat} {M : ai_M} {k : Nat} (h : k < n) : (ai_w ad aC n M)[k]? = some (ad k, ai_ce ad aC (M k)) := by
  simp [ai_w, List.getElem?_map, List.getElem?_range h]
theorem ai_w_set {ad : Nat → Nat} {aC : Nat → ClassId} {n : Nat} {M : ai_M} {k : Nat} (e : va_E) : (ai_w ad aC n M).set k (ad k, ai_ce ad aC e) = ai_w ad aC n (va_up M k e) := by
  apply List.ext_getElem?
  intro j
  rw [List.getElem?_set]
  by_cases hj : j < n
  · rw [ai_w_get hj, ai_w_get hj]
    by_cases e1 : k = j
    · subst e1
      have hl : k < (ai_w ad aC n M).length := by simp [ai_w, hj]
      simp [hl, va_up]
    · have e2 : ¬ j = k := fun q => e1 q.symm
      simp [e1, e2, va_up]
  · have hl : (ai_w ad aC n M).length ≤ j := by simp [ai_w]; omega
    have hl2 : (ai_w ad aC n (va_up M k e)).length ≤ j := by simp [ai_w]; omega
    rw [List.getElem?_eq_none hl, List.getElem?_eq_none hl2]
    by_cases e1 : k = j
    · subst e1
      have : ¬ k < (ai_w ad aC n M).length := by omega
      simp [this]
    · simp [e1]
theorem ai_w_push {ad : Nat → Nat} {aC : Nat → ClassId} {n : Nat} {M : ai_M} (e : va_E) : ai_w ad aC n M ++ [(ad n, ai_ce ad aC e)] = ai_w ad aC (n + 1) (va_up M n e) := by
  unfold ai_w
  rw [List.range_succ, List.map_append]
  congr 1
  · apply List.map_congr_left
    intro k hk
    have : ¬ k = n := by have := List.mem_range.mp hk; omega
    simp [va_up, this]
  · simp [va_up]
theorem ai_w_D {ad : Nat → Nat} {aC : Nat → ClassId} {n base : Nat} {M : ai_M} (hn : n ≤ 900000) (had : ∀ k, k < 900000 → ad k = base + k) : va_D (fun q => base ≤ q) (ai_w ad aC n M) := by
  have key : ∀ (i : Nat) (x : Nat × va_E), (ai_w ad aC n M)[i]? = some x → i < n ∧ x.1 = base + i := by
    intro i x h
    have hl := (List.getElem?_eq_some_iff.mp h).1
    have hi : i < n := by simpa [ai_w] using hl
    rw [ai_w_get hi] at h
    cases h
    exact ⟨hi, had i (by omega)⟩
  refine ⟨fun i j x y hi hj h => ?_, fun i x hi => ?_⟩
  · have h1 := key i x hi
    have h2 := key j y hj
    omega
  · have h1 := key i x hi
    show base ≤ x.1
    omega
theorem ai_ib_of {i : Int32} {n : Nat} (h : ai_ib i n = true) : vp_in i n := by
  unfold ai_ib at h
  unfold vp_in
  simp at h
  intro q
  rcases q with q | q
  · exact absurd q (by simpa using h.1)
  · omega
theorem ai_ft_of {ad : Nat → Nat} {ty : FieldType} {v : Value} (h : ai_ft ty v = true) : narrow ty (ai_cv ad v) = ai_cv ad v ∧ fits ty (ai_cv ad v) = true := by
  unfold ai_ft at h
  split at h
  · exact ⟨rfl, rfl⟩
  · simp at h
    rcases h with rfl | rfl
    · show narrow .boolean (.int 0) = .int 0 ∧ fits .boolean (.int 0) = true
      exact ⟨by decide, by decide⟩
    · show narrow .boolean (.int 1) = .int 1 ∧ fits .boolean (.int 1) = true
      exact ⟨by decide, by decide⟩
  · exact ⟨rfl, rfl⟩
  · exact ⟨rfl, rfl⟩
  · exact ⟨rfl, rfl⟩
  · cases h
end AIW
section AIK
/-- where the machine stands when the interpreter stands at a place: what the rest needs of it. c0 cells and s0 slots were made when the interpreter had n0 and l0 -/
def ai_Go (p : Program) (l : Launch) (e : Env) (R : Room) (s : State) (m : MethodId) (args : Array Value) (below : List Frame) (meth : Method) (c : Code) (Q : State → Prop) (D : va_G) (cl : List vw_C) (ad : Nat → Nat) (aC : Nat → ClassId) (base nL n0 c0 l0 s0 : Nat) (g : Bool) (z : ai_C) : Prop :=
  ∀ (H : Heap) (locs : List Loc) (ls : Array Slot) (cells slots : Nat), cells + n0 = c0 + z.2.2.2.1 → slots + l0 = s0 + z.2.2.2.2.1 → va_P D cl (ai_w ad aC z.2.2.2.1 z.2.2.2.2.2) H → va_S (fun q => base ≤ q) s.heap H locs → (g = true → H.size = base + z.2.2.2.1) → z.2.2.2.1 ≤ 900000 → ai_H ad ls nL z.2.1 → W p l e R s m args below meth c H locs cells slots Q (F0 m z.1 ls (z.2.2.1.map (ai_cv ad)))
/-- a field of the pool is what the tables say -/
def ai_okF (T : ai_T) (cl : List vw_C) (on : Nat → String) (tb : List Cond) (c j ci kf fin : Nat) : Prop := kf < ai_nf T ci → ∃ (C : String) (F : u_T), cl[ci]? = some (C, F, ai_nf T ci) ∧ (∀ w ∈ u_ws C F (ai_nf T ci), w ∈ tb) ∧ Cond.fieldLink (on c) j (F kf).1 (F kf).2.1 (F kf).2.2.1 ∈ tb ∧ (∀ k, k < ai_nf T ci → parseFieldDescriptor (F k).2.2.1 = some (ai_fty T ci k)) ∧ (∀ a, a < ai_nf T ci → ∀ b, b < ai_nf T ci → a ≠ b → (F a).2.1 ≠ (F b).2.1) ∧ (fin = 0 → (F kf).2.2.2 = false) ∧ (fin = 1 → (F kf).2.2.2 = true ∧ (F kf).1 = on c)
def ai_okN (T : ai_T) (cl : List vw_C) (on : Nat → String) (tb : List Cond) (c j ci : Nat) : Prop := ∃ (C : String) (F : u_T), cl[ci]? = some (C, F, ai_nf T ci) ∧ (∀ w ∈ u_ws C F (ai_nf T ci), w ∈ tb) ∧ (∀ k, k < ai_nf T ci → parseFieldDescriptor (F k).2.2.1 = some (ai_fty T ci k)) ∧ Cond.classLink (on c) j C ∈ tb ∧ Cond.instantiable C (ai_nf T ci) ∈ tb ∧ Cond.initialized C ∈ tb
end AIK
