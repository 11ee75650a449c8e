/-! A SENTENCE's text: what it comes to, token by token -/
section SNA
variable {c : TC} {nm : Nat → List Nat} {P S : Nat}
/-- one step of what is said: word, sign, number -/
abbrev SC : Type := Nat × Nat × Nat
/-- is an operand behind us; place; ONES; steps; what is not closed (the last first: 13 not, 12 and, 11 or, 40 a bracket); how deep -/
abbrev AS : Type := Bool × Nat × Nat × List SC × List Nat × Nat
def opc (k : Nat) : SC := (k, 0, 0)
def ntS : List SC → List Nat → Nat → List SC × List Nat × Nat
  | L, 13 :: r, dp => ntS (L ++ [opc 13]) r (dp - 1)
  | L, s, dp => (L, s, dp)
def jnS (a : Nat) : List SC → List Nat → List SC × List Nat
  | L, 12 :: r => jnS a (L ++ [opc 12]) r
  | L, 11 :: r => if a = 11 then jnS a (L ++ [opc 11]) r else (L, 11 :: r)
  | L, s => (L, s)
def isMs (y : Nat) : Bool := decide (16 ≤ y) && decide (y ≤ 20)
def isBg (y : Nat) : Bool := decide (y = 13) || decide (y = 14) || decide (y = 3) || decide (y = 4) || decide (y = 15) || decide (y = 1) || isMs y
def isCm (k : Nat) : Bool := decide (k = 60) || decide (k = 61) || decide (k = 62)
/-- a ONE that is neither not nor a bracket, behind its first word y: step, place behind -/
def leafS (c : TC) (nm : Nat → List Nat) (P S y i : Nat) : (Nat × Nat) ⊕ (Nat × SC) :=
  if y = 15 then (match sOne c (nmS nm) S i with
    | .inl e => .inl e
    | .inr k => .inr (cA c i, (15, 0, k)))
  else if y = 1 then (match sOne c nm P i with
    | .inl e => .inl e
    | .inr k => .inr (cA c i, (1, 0, k)))
  else if isMs y = true then (if isCm (cK c i) = false then .inl (1, i) else match sNum c 0 999 (cA c i) with
    | .inl e => .inl e
    | .inr (z, i2) => .inr (i2, (y, cK c i, z)))
  else .inr (i, (y, 0, 0))
def opS (c : TC) (nm : Nat → List Nat) (P S i o : Nat) (L : List SC) (s : List Nat) (dp : Nat) : (Nat × Nat) ⊕ AS :=
  if ¬ cK c i = 40 ∧ isBg (cY c i) = false then .inl (1, i)
  else if o = 20 ∨ 8 < dp then .inl (4, i)
  else if cK c i = 40 then .inr (false, cA c i, o + 1, L, 40 :: s, dp + 1)
  else if cY c i = 13 then .inr (false, cA c i, o + 1, L, 13 :: s, dp + 1)
  else match leafS c nm P S (cY c i) (cA c i) with
    | .inl e => .inl e
    | .inr (i2, z) => .inr (true, i2, o + 1, L ++ [z], s, dp)
def bhS (c : TC) (i o : Nat) (L : List SC) (s : List Nat) (dp : Nat) : (Nat × Nat) ⊕ AS :=
  if cY c i = 12 then .inr (false, cA c i, o, (jnS 12 (ntS L s dp).1 (ntS L s dp).2.1).1, 12 :: (jnS 12 (ntS L s dp).1 (ntS L s dp).2.1).2, (ntS L s dp).2.2)
  else if cY c i = 11 then .inr (false, cA c i, o, (jnS 11 (ntS L s dp).1 (ntS L s dp).2.1).1, 11 :: (jnS 11 (ntS L s dp).1 (ntS L s dp).2.1).2, (ntS L s dp).2.2)
  else match (jnS 11 (ntS L s dp).1 (ntS L s dp).2.1).2 with
    | [] => if cK c i = 0 then .inr (true, i, o, L, s, dp) else .inl (1, i)
    | _ :: r => if cK c i = 41 then .inr (true, cA c i, o, (jnS 11 (ntS L s dp).1 (ntS L s dp).2.1).1, r, (ntS L s dp).2.2 - 1) else .inl (1, i)
def stS (c : TC) (nm : Nat → List Nat) (P S : Nat) (a : AS) : (Nat × Nat) ⊕ AS := match a with
  | (true, i, o, L, s, dp) => bhS c i o L s dp
  | (false, i, o, L, s, dp) => opS c nm P S i o L s dp
def itS (c : TC) (nm : Nat → List Nat) (P S : Nat) : Nat → AS → (Nat × Nat) ⊕ AS
  | 0, a => .inr a
  | n + 1, a => match stS c nm P S a with
    | .inl e => .inl e
    | .inr a' => itS c nm P S n a'
def goS (c : TC) (nm : Nat → List Nat) (P S : Nat) (a : AS) (z : (Nat × Nat) ⊕ AS) : Prop := ∃ n, itS c nm P S n a = z
theorem itS_add {a a' : AS} {z : (Nat × Nat) ⊕ AS} : ∀ (n m : Nat) (a : AS), itS c nm P S n a = .inr a' → itS c nm P S m a' = z → itS c nm P S (n + m) a = z := by
  intro n
  induction n with
  | zero =>
    intro m a h g
    cases h
    rw [Nat.zero_add]
    exact g
  | succ n ih =>
    intro m a h g
    rw [show n + 1 + m = (n + m) + 1 by omega]
    unfold itS at h ⊢
    cases e : stS c nm P S a with
    | inl f => rw [e] at h; cases h
    | inr a2 =>
      rw [e] at h
      exact ih m a2 h g
theorem goS.tr {a a' : AS} {z : (Nat × Nat) ⊕ AS} (h : goS c nm P S a (.inr a')) (g : goS c nm P S a' z) : goS c nm P S a z := by
  obtain ⟨n, hn⟩ := h
  obtain ⟨m, hm⟩ := g
  exact ⟨n + m, itS_add (a := a) n m a hn hm⟩
theorem goS_1 {a a' : AS} (h : stS c nm P S a = .inr a') : goS c nm P S a (.inr a') := ⟨1, by unfold itS; rw [h]; rfl⟩
theorem goS_e {a : AS} {e : Nat × Nat} (h : stS c nm P S a = .inl e) : goS c nm P S a (.inl e) := ⟨1, by unfold itS; rw [h]⟩
theorem goS_0 {a : AS} : goS c nm P S a (.inr a) := ⟨0, rfl⟩
theorem ntS_no {L : List SC} {s : List Nat} {dp : Nat} (h : ∀ r, ¬ s = 13 :: r) : ntS L s dp = (L, s, dp) := by
  unfold ntS
  split
  · exact absurd rfl (h _)
  · rfl
theorem ntS_rep {τ : List Nat} (h : ∀ r, ¬ τ = 13 :: r) : ∀ (k : Nat) (L : List SC) (dp : Nat), ntS L (List.replicate k 13 ++ τ) (dp + k) = (L ++ List.replicate k (opc 13), τ, dp) := by
  intro k
  induction k with
  | zero => intro L dp; simp only [List.replicate_zero, List.nil_append, List.append_nil, Nat.add_zero]; exact ntS_no h
  | succ k ih =>
    intro L dp
    rw [List.replicate_succ, List.cons_append]
    show ntS (L ++ [opc 13]) (List.replicate k 13 ++ τ) (dp + (k + 1) - 1) = _
    rw [show dp + (k + 1) - 1 = dp + k by omega, ih, List.replicate_succ, List.append_assoc]
    rfl
/-- what is left at the end of an ALL, of a COND -/
def aS (a : Bool) (τ : List Nat) : List Nat := if a = true then 12 :: τ else τ
def oS (b : Bool) (τ : List Nat) : List Nat := if b = true then 11 :: τ else τ
def aL (a : Bool) : List SC := if a = true then [opc 12] else []
def oL (b : Bool) : List SC := if b = true then [opc 11] else []
/-- a bracket, or nothing, is left -/
def okTau (τ : List Nat) : Prop := τ = [] ∨ ∃ r, τ = 40 :: r
theorem okT_13 {τ : List Nat} (h : okTau τ) (a b : Bool) : ∀ r, ¬ aS a (oS b τ) = 13 :: r := by
  intro r e
  rcases h with rfl | ⟨q, rfl⟩ <;> cases a <;> cases b <;> simp [aS, oS] at e
theorem jn_no {τ : List Nat} (h : okTau τ) (a : Nat) (L : List SC) : jnS a L τ = (L, τ) := by
  rcases h with rfl | ⟨q, rfl⟩ <;> rfl
theorem jn_o11 {τ : List Nat} (h : okTau τ) (b : Bool) (L : List SC) : jnS 11 L (oS b τ) = (L ++ oL b, τ) := by
  cases b
  · show jnS 11 L τ = (L ++ [], τ)
    rw [jn_no h, List.append_nil]
  · show (if 11 = 11 then jnS 11 (L ++ [opc 11]) τ else _) = _
    rw [if_pos rfl, jn_no h]
    rfl
theorem jn_o12 {τ : List Nat} (h : okTau τ) (b : Bool) (L : List SC) : jnS 12 L (oS b τ) = (L, oS b τ) := by
  cases b
  · exact jn_no h 12 L
  · show (if 12 = 11 then _ else (L, 11 :: τ)) = _
    rw [if_neg (by decide)]
    rfl
theorem jn_a11 {τ : List Nat} (h : okTau τ) (a b : Bool) (L : List SC) : jnS 11 L (aS a (oS b τ)) = (L ++ aL a ++ oL b, τ) := by
  cases a
  · show jnS 11 L (oS b τ) = (L ++ [] ++ oL b, τ)
    rw [List.append_nil]
    exact jn_o11 h b L
  · exact jn_o11 h b (L ++ [opc 12])
theorem jn_a12 {τ : List Nat} (h : okTau τ) (a b : Bool) (L : List SC) : jnS 12 L (aS a (oS b τ)) = (L ++ aL a, oS b τ) := by
  cases a
  · show jnS 12 L (oS b τ) = (L ++ [], oS b τ)
    rw [List.append_nil]
    exact jn_o12 h b L
  · exact jn_o12 h b (L ++ [opc 12])
end SNA
