/-! RINGS: what is sought -/
section RNG
def fsN {α : Type} (g : Nat → Option α) : Nat → Nat → Option α
  | _, 0 => none
  | q, c + 1 => match g q with
    | some z => some z
    | none => fsN g (q + 1) c
/-- the first way to close a ring from fr on, with r more PERSONS behind the path w (its last one ahead) -/
def srch (f : Nat → Int32) (P fr : Nat) : Nat → List Nat → Option (List Nat)
  | 0, w => if 0 < f (w.headD 0 * 8 + fr) then some w else none
  | r + 1, w => fsN (fun q => if q ∉ w ∧ 0 < f (w.headD 0 * 8 + q) then srch f P fr r (q :: w) else none) (fr + 1) (P - (fr + 1))
/-- the first ring of so many, the first of all -/
def ring1 (f : Nat → Int32) (P size : Nat) : Option (List Nat) := fsN (fun q => srch f P q (size - 1) [q]) 0 P
def ringS (f : Nat → Int32) (P : Nat) : Option (List Nat) := fsN (fun size => ring1 f P size) 3 (P - 2)
theorem fsN_none {α : Type} {g : Nat → Option α} : ∀ (c q : Nat), (∀ i, q ≤ i → i < q + c → g i = none) → fsN g q c = none := by
  intro c
  induction c with
  | zero => intro q h; rfl
  | succ c ih =>
    intro q h
    unfold fsN
    rw [h q (Nat.le_refl _) (by omega)]
    exact ih _ (fun i h1 h2 => h i (by omega) (by omega))
theorem fsN_some {α : Type} {g : Nat → Option α} {z : α} : ∀ (c q : Nat), fsN g q c = some z → ∃ i, q ≤ i ∧ i < q + c ∧ g i = some z := by
  intro c
  induction c with
  | zero => intro q h; cases h
  | succ c ih =>
    intro q h
    unfold fsN at h
    split at h
    · rename_i z' hz
      cases h
      exact ⟨q, Nat.le_refl _, by omega, hz⟩
    · obtain ⟨i, h1, h2, h3⟩ := ih _ h
      exact ⟨i, by omega, by omega, h3⟩
theorem fsN_split {α : Type} {g : Nat → Option α} : ∀ (a q b : Nat), (∀ i, q + a ≤ i → i < q + a + b → g i = none) → fsN g q (a + b) = fsN g q a := by
  intro a
  induction a with
  | zero => intro q b h; rw [Nat.zero_add]; exact fsN_none _ _ (fun i h1 h2 => h i (by omega) (by omega))
  | succ a ih =>
    intro q b h
    rw [show a + 1 + b = (a + b) + 1 by omega]
    unfold fsN
    split
    · rfl
    · exact ih _ _ (fun i h1 h2 => h i (by omega) (by omega))
/-- PERSONS not on the path, of c from q on -/
def cntF (w : List Nat) : Nat → Nat → Nat
  | _, 0 => 0
  | q, c + 1 => (if q ∈ w then 0 else 1) + cntF w (q + 1) c
theorem cntF_out {w : List Nat} {p : Nat} : ∀ (c q : Nat), p < q ∨ q + c ≤ p → cntF (p :: w) q c = cntF w q c := by
  intro c
  induction c with
  | zero => intro q h; rfl
  | succ c ih =>
    intro q h
    have : ¬ q = p := by omega
    simp only [cntF, List.mem_cons, this, false_or]
    rw [ih (q + 1) (by omega)]
theorem cntF_in {w : List Nat} {p : Nat} (hp : p ∉ w) : ∀ (c q : Nat), q ≤ p → p < q + c → cntF (p :: w) q c + 1 = cntF w q c := by
  intro c
  induction c with
  | zero => intro q h1 h2; omega
  | succ c ih =>
    intro q h1 h2
    by_cases e : q = p
    · subst e
      simp only [cntF, List.mem_cons, true_or, if_true, hp, if_false]
      rw [cntF_out c (q + 1) (by omega)]
      omega
    · simp only [cntF, List.mem_cons, e, false_or]
      have := ih (q + 1) (by omega) (by omega)
      omega
theorem cntF_le (w : List Nat) : ∀ (c q : Nat), cntF w q c ≤ c := by
  intro c
  induction c with
  | zero => intro q; exact Nat.le_refl _
  | succ c ih =>
    intro q
    unfold cntF
    have := ih (q + 1)
    split <;> omega
theorem srch_cnt {f : Nat → Int32} {P fr : Nat} : ∀ (r : Nat) (w z : List Nat), srch f P fr r w = some z → r ≤ cntF w (fr + 1) (P - (fr + 1)) := by
  intro r
  induction r with
  | zero => intro w z h; omega
  | succ r ih =>
    intro w z h
    unfold srch at h
    obtain ⟨q, h1, h2, h3⟩ := fsN_some _ _ h
    split at h3
    · rename_i hc
      have a := ih _ _ h3
      have b := cntF_in hc.1 _ _ h1 h2
      omega
    · cases h3
theorem srch_short {f : Nat → Int32} {P fr r : Nat} {w : List Nat} (h : P < fr + 1 + r) : srch f P fr r w = none ∨ r = 0 := by
  by_cases h0 : r = 0
  · exact Or.inr h0
  · left
    cases e : srch f P fr r w with
    | none => rfl
    | some z =>
      have := srch_cnt _ _ _ e
      have := cntF_le w (P - (fr + 1)) (fr + 1)
      omega
/-- the class looks only where a ring could still be -/
theorem ring1_short {f : Nat → Int32} {P size : Nat} (h1 : 2 ≤ size) (h2 : size ≤ P) : ring1 f P size = fsN (fun q => srch f P q (size - 1) [q]) 0 (P + 1 - size) := by
  have := fsN_split (g := fun q => srch f P q (size - 1) [q]) (P + 1 - size) 0 (size - 1) (fun i hi1 hi2 => by
    rcases srch_short (f := f) (P := P) (fr := i) (r := size - 1) (w := [i]) (by omega) with h | h
    · exact h
    · omega)
  rw [show P + 1 - size + (size - 1) = P by omega] at this
  exact this
/-- the row of a path: its last one ahead -/
def RW (g : Nat → Int32) : List Nat → Prop
  | [] => True
  | q :: w => g w.length = nI q ∧ RW g w
theorem RW_upd {g : Nat → Int32} {i : Nat} {v : Int32} : ∀ {w : List Nat}, RW g w → w.length ≤ i → RW (upd g i v) w := by
  intro w
  induction w with
  | nil => intro _ _; trivial
  | cons q w ih =>
    intro h hi
    have hi' : w.length + 1 ≤ i := hi
    refine ⟨?_, ih h.2 (by omega)⟩
    rw [pk_un (by omega)]
    exact h.1
theorem RW_push {g : Nat → Int32} {q : Nat} {w : List Nat} (h : RW g w) : RW (upd g w.length (nI q)) (q :: w) := ⟨pk_us, RW_upd h (Nat.le_refl _)⟩
theorem srch_len {f : Nat → Int32} {P fr : Nat} : ∀ (r : Nat) (w z : List Nat), srch f P fr r w = some z → z.length = w.length + r := by
  intro r
  induction r with
  | zero =>
    intro w z h
    unfold srch at h
    split at h
    · cases h; rfl
    · cases h
  | succ r ih =>
    intro w z h
    unfold srch at h
    obtain ⟨q, h1, h2, h3⟩ := fsN_some _ _ h
    split at h3
    · have := ih _ _ h3
      simp at this
      omega
    · cases h3
/-- a ring's PERSONS: each once, all of the TOWN, and each owes the next one -/
def RG (f : Nat → Int32) : List Nat → Prop
  | [] => True
  | [_] => True
  | a :: b :: w => 0 < f (b * 8 + a) ∧ RG f (b :: w)
theorem srch_ok {f : Nat → Int32} {P fr : Nat} (hfr : fr < P) : ∀ (r : Nat) (w z : List Nat), srch f P fr r w = some z → w ≠ [] → w.Nodup → (∀ q ∈ w, q < P) → RG f w → w.getLast? = some fr → z.Nodup ∧ (∀ q ∈ z, q < P) ∧ RG f z ∧ z.getLast? = some fr ∧ 0 < f (z.headD 0 * 8 + fr) := by
  intro r
  induction r with
  | zero =>
    intro w z h h0 h1 h2 h3 h4
    unfold srch at h
    split at h
    · rename_i hc; cases h; exact ⟨h1, h2, h3, h4, hc⟩
    · cases h
  | succ r ih =>
    intro w z h h0 h1 h2 h3 h4
    unfold srch at h
    obtain ⟨q, q1, q2, q3⟩ := fsN_some _ _ h
    split at q3
    · rename_i hc
      match w, h0 with
      | a :: w, _ =>
      refine ih _ _ q3 (by simp) (List.nodup_cons.mpr ⟨hc.1, h1⟩) ?_ ⟨hc.2, h3⟩ ?_
      · intro x hx
        rcases List.mem_cons.mp hx with rfl | hx
        · omega
        · exact h2 x hx
      · rw [List.getLast?_cons_cons]; exact h4
    · cases q3
theorem ringS_ok {f : Nat → Int32} {P : Nat} {z : List Nat} (h : ringS f P = some z) : 3 ≤ z.length ∧ z.length ≤ P ∧ z.Nodup ∧ (∀ q ∈ z, q < P) ∧ RG f z ∧ ∃ fr, z.getLast? = some fr ∧ 0 < f (z.headD 0 * 8 + fr) := by
  obtain ⟨size, s1, s2, s3⟩ := fsN_some _ _ h
  obtain ⟨fr, f1, f2, f3⟩ := fsN_some _ _ s3
  have hl := srch_len _ _ _ f3
  obtain ⟨a, b, c, e, g⟩ := srch_ok (by omega) _ _ _ f3 (by simp) (by simp) (by intro q hq; simp at hq; omega) trivial rfl
  simp at hl
  exact ⟨by omega, by omega, a, b, c, fr, e, g⟩
end RNG
