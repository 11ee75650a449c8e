/-! A SENTENCE's text: ONE, ALL, COND against the steps -/
section SNB
variable {c : TC} {nm : Nat → List Nat} {P S : Nat} {D i o i1 o1 i2 o2 : Nat} {L L1 L2 : List SC} {e : Nat × Nat}
def rp (k : Nat) : List Nat := List.replicate k 13
def rq (k : Nat) : List SC := List.replicate k (opc 13)
theorem nt_at {τ : List Nat} (h : okTau τ) (a b : Bool) (k : Nat) (L : List SC) (D : Nat) : ntS L (rp k ++ aS a (oS b τ)) (D + k) = (L ++ rq k, aS a (oS b τ), D) := ntS_rep (okT_13 h a b) k L D
def oneR (c : TC) (nm : Nat → List Nat) (P S D i o : Nat) (L : List SC) (i' o' : Nat) (L' : List SC) : Prop := ∀ τ, ∃ k L1, L' = L1 ++ rq k ∧ goS c nm P S (false, i, o, L, τ, D) (.inr (true, i', o', L1, rp k ++ τ, D + k))
def oneE (c : TC) (nm : Nat → List Nat) (P S D i o : Nat) (L : List SC) (e : Nat × Nat) : Prop := ∀ τ, goS c nm P S (false, i, o, L, τ, D) (.inl e)
def allR (c : TC) (nm : Nat → List Nat) (P S D i o : Nat) (L : List SC) (i' o' : Nat) (L' : List SC) : Prop := ∀ τ b, okTau τ → ∃ k a L1, L' = L1 ++ rq k ++ aL a ∧ goS c nm P S (false, i, o, L, oS b τ, D) (.inr (true, i', o', L1, rp k ++ aS a (oS b τ), D + k))
def allE (c : TC) (nm : Nat → List Nat) (P S D i o : Nat) (L : List SC) (e : Nat × Nat) : Prop := ∀ τ b, okTau τ → goS c nm P S (false, i, o, L, oS b τ, D) (.inl e)
def conR (c : TC) (nm : Nat → List Nat) (P S D i o : Nat) (L : List SC) (i' o' : Nat) (L' : List SC) : Prop := ∀ τ, okTau τ → ∃ k a b L1, L' = L1 ++ rq k ++ aL a ++ oL b ∧ goS c nm P S (false, i, o, L, τ, D) (.inr (true, i', o', L1, rp k ++ aS a (oS b τ), D + k))
def conE (c : TC) (nm : Nat → List Nat) (P S D i o : Nat) (L : List SC) (e : Nat × Nat) : Prop := ∀ τ, okTau τ → goS c nm P S (false, i, o, L, τ, D) (.inl e)
theorem all_one (h : oneR c nm P S D i o L i1 o1 L1) : allR c nm P S D i o L i1 o1 L1 := by
  intro τ b ht
  obtain ⟨k, M, e, g⟩ := h (oS b τ)
  exact ⟨k, false, M, by rw [e]; show _ = M ++ rq k ++ []; rw [List.append_nil], g⟩
theorem all_oneE (h : oneE c nm P S D i o L e) : allE c nm P S D i o L e := fun τ b _ => h (oS b τ)
/-- the step at 'and' -/
theorem st_and {τ : List Nat} (ht : okTau τ) {a b : Bool} {k : Nat} {M : List SC} (hy : cY c i1 = 12) : stS c nm P S (true, i1, o1, M, rp k ++ aS a (oS b τ), D + k) = .inr (false, cA c i1, o1, M ++ rq k ++ aL a, 12 :: oS b τ, D) := by
  show bhS c i1 o1 M _ _ = _
  unfold bhS
  rw [if_pos hy, nt_at ht, jn_a12 ht]
theorem st_or {τ : List Nat} (ht : okTau τ) {a b : Bool} {k : Nat} {M : List SC} (hy : cY c i1 = 11) : stS c nm P S (true, i1, o1, M, rp k ++ aS a (oS b τ), D + k) = .inr (false, cA c i1, o1, M ++ rq k ++ aL a ++ oL b, 11 :: τ, D) := by
  show bhS c i1 o1 M _ _ = _
  unfold bhS
  rw [if_neg (by omega), if_pos hy, nt_at ht, jn_a11 ht]
theorem all_next (h : allR c nm P S D i o L i1 o1 L1) (hy : cY c i1 = 12) (g : oneR c nm P S D (cA c i1) o1 L1 i2 o2 L2) : allR c nm P S D i o L i2 o2 (L2 ++ [opc 12]) := by
  intro τ b ht
  obtain ⟨k, a, M, e, r⟩ := h τ b ht
  obtain ⟨k2, M2, e2, r2⟩ := g (12 :: oS b τ)
  refine ⟨k2, true, M2, by rw [e2]; rfl, r.tr ((goS_1 (st_and ht hy)).tr (by rw [← e]; exact r2))⟩
theorem all_nextE (h : allR c nm P S D i o L i1 o1 L1) (hy : cY c i1 = 12) (g : oneE c nm P S D (cA c i1) o1 L1 e) : allE c nm P S D i o L e := by
  intro τ b ht
  obtain ⟨k, a, M, q, r⟩ := h τ b ht
  exact r.tr ((goS_1 (st_and ht hy)).tr (by rw [← q]; exact g (12 :: oS b τ)))
theorem con_all (h : allR c nm P S D i o L i1 o1 L1) : conR c nm P S D i o L i1 o1 L1 := by
  intro τ ht
  obtain ⟨k, a, M, e, r⟩ := h τ false ht
  exact ⟨k, a, false, M, by rw [e]; show _ = M ++ rq k ++ aL a ++ []; rw [List.append_nil], r⟩
theorem con_allE (h : allE c nm P S D i o L e) : conE c nm P S D i o L e := fun τ ht => h τ false ht
theorem con_next (h : conR c nm P S D i o L i1 o1 L1) (hy : cY c i1 = 11) (g : allR c nm P S D (cA c i1) o1 L1 i2 o2 L2) : conR c nm P S D i o L i2 o2 (L2 ++ [opc 11]) := by
  intro τ ht
  obtain ⟨k, a, b, M, e, r⟩ := h τ ht
  obtain ⟨k2, a2, M2, e2, r2⟩ := g τ true ht
  refine ⟨k2, a2, true, M2, by rw [e2]; rfl, r.tr ((goS_1 (st_or ht hy)).tr (by rw [← e]; exact r2))⟩
theorem con_nextE (h : conR c nm P S D i o L i1 o1 L1) (hy : cY c i1 = 11) (g : allE c nm P S D (cA c i1) o1 L1 e) : conE c nm P S D i o L e := by
  intro τ ht
  obtain ⟨k, a, b, M, q, r⟩ := h τ ht
  exact r.tr ((goS_1 (st_or ht hy)).tr (by rw [← q]; exact g τ true ht))
theorem cY_no (h : ¬ cK c i = 2) : cY c i = 21 := by
  have : ¬ tK c.1 c.2.1 c.2.2 i = 2 := h
  unfold cY tY
  rw [if_neg this]
theorem okT_40 {τ : List Nat} : okTau (40 :: τ) := Or.inr ⟨τ, rfl⟩
/-- a bracket begins -/
theorem st_br {τ : List Nat} (hk : cK c i = 40) (ho : ¬ o = 20) (hD : ¬ 8 < D) : stS c nm P S (false, i, o, L, τ, D) = .inr (false, cA c i, o + 1, L, 40 :: τ, D + 1) := by
  show opS c nm P S i o L τ D = _
  unfold opS
  rw [if_neg (fun h => h.1 hk), if_neg (by omega), if_pos hk]
theorem one_br (hk : cK c i = 40) (ho : ¬ o = 20) (hD : ¬ 8 < D) (h : conR c nm P S (D + 1) (cA c i) (o + 1) L i1 o1 L1) (hk1 : cK c i1 = 41) : oneR c nm P S D i o L (cA c i1) o1 L1 := by
  intro τ
  obtain ⟨k, a, b, M, e, r⟩ := h (40 :: τ) okT_40
  have hy : cY c i1 = 21 := cY_no (by omega)
  refine ⟨0, L1, by show L1 = L1 ++ []; rw [List.append_nil], (goS_1 (st_br hk ho hD)).tr (r.tr (goS_1 ?_))⟩
  show bhS c i1 o1 M _ _ = _
  unfold bhS
  rw [if_neg (by omega), if_neg (by omega), nt_at okT_40, jn_a11 okT_40, ← e]
  show (if cK c i1 = 41 then (.inr (true, cA c i1, o1, L1, τ, D + 1 - 1) : (Nat × Nat) ⊕ AS) else .inl (1, i1)) = _
  rw [if_pos hk1]
  rfl
theorem one_brE (hk : cK c i = 40) (ho : ¬ o = 20) (hD : ¬ 8 < D) (h : conE c nm P S (D + 1) (cA c i) (o + 1) L e) : oneE c nm P S D i o L e := fun τ => (goS_1 (st_br hk ho hD)).tr (h (40 :: τ) okT_40)
theorem one_brX (hk : cK c i = 40) (ho : ¬ o = 20) (hD : ¬ 8 < D) (h : conR c nm P S (D + 1) (cA c i) (o + 1) L i1 o1 L1) (hk1 : ¬ cK c i1 = 41) (h1 : ¬ cY c i1 = 12) (h2 : ¬ cY c i1 = 11) : oneE c nm P S D i o L (1, i1) := by
  intro τ
  obtain ⟨k, a, b, M, e, r⟩ := h (40 :: τ) okT_40
  refine (goS_1 (st_br hk ho hD)).tr (r.tr (goS_e ?_))
  show bhS c i1 o1 M _ _ = _
  unfold bhS
  rw [if_neg h1, if_neg h2, nt_at okT_40, jn_a11 okT_40]
  show (if cK c i1 = 41 then _ else (.inl (1, i1) : (Nat × Nat) ⊕ AS)) = _
  rw [if_neg hk1]
theorem st_not {τ : List Nat} (hk : cY c i = 13) (ho : ¬ o = 20) (hD : ¬ 8 < D) : stS c nm P S (false, i, o, L, τ, D) = .inr (false, cA c i, o + 1, L, 13 :: τ, D + 1) := by
  have h2 : cK c i = 2 := by
    by_cases q : cK c i = 2
    · exact q
    · have := cY_no q; omega
  show opS c nm P S i o L τ D = _
  unfold opS
  rw [if_neg (fun h => by rw [hk] at h; exact absurd h.2 (by decide)), if_neg (by omega), if_neg (by omega), if_pos hk]
theorem one_not (hk : cY c i = 13) (ho : ¬ o = 20) (hD : ¬ 8 < D) (h : oneR c nm P S (D + 1) (cA c i) (o + 1) L i1 o1 L1) : oneR c nm P S D i o L i1 o1 (L1 ++ [opc 13]) := by
  intro τ
  obtain ⟨k, M, e, r⟩ := h (13 :: τ)
  refine ⟨k + 1, M, ?_, (goS_1 (st_not hk ho hD)).tr ?_⟩
  · rw [e, List.append_assoc]
    unfold rq
    rw [List.replicate_succ']
  · have e1 : rp (k + 1) ++ τ = rp k ++ 13 :: τ := by
      unfold rp
      rw [List.replicate_succ', List.append_assoc]
      rfl
    rw [e1, show D + (k + 1) = D + 1 + k by omega]
    exact r
theorem one_notE (hk : cY c i = 13) (ho : ¬ o = 20) (hD : ¬ 8 < D) (h : oneE c nm P S (D + 1) (cA c i) (o + 1) L e) : oneE c nm P S D i o L e := fun τ => (goS_1 (st_not hk ho hD)).tr (h (13 :: τ))
theorem one_e1 (h1 : ¬ cK c i = 40) (h2 : isBg (cY c i) = false) : oneE c nm P S D i o L (1, i) := fun τ => goS_e (by
  show opS c nm P S i o L τ D = _
  unfold opS
  rw [if_pos ⟨h1, h2⟩])
theorem one_e4 (h1 : ¬ (¬ cK c i = 40 ∧ isBg (cY c i) = false)) (h2 : o = 20 ∨ 8 < D) : oneE c nm P S D i o L (4, i) := fun τ => goS_e (by
  show opS c nm P S i o L τ D = _
  unfold opS
  rw [if_neg h1, if_pos h2])
theorem op_leaf {τ : List Nat} (h0 : ¬ cK c i = 40) (h1 : isBg (cY c i) = true) (h2 : ¬ cY c i = 13) (ho : ¬ o = 20) (hD : ¬ 8 < D) : stS c nm P S (false, i, o, L, τ, D) = (match leafS c nm P S (cY c i) (cA c i) with
    | .inl e => .inl e
    | .inr (i2, z) => .inr (true, i2, o + 1, L ++ [z], τ, D)) := by
  show opS c nm P S i o L τ D = _
  unfold opS
  rw [if_neg (fun h => by rw [h1] at h; exact absurd h.2 (by decide)), if_neg (by omega), if_neg h0, if_neg h2]
  rfl
theorem one_leaf {z : SC} (h0 : ¬ cK c i = 40) (h1 : isBg (cY c i) = true) (h2 : ¬ cY c i = 13) (ho : ¬ o = 20) (hD : ¬ 8 < D) (h : leafS c nm P S (cY c i) (cA c i) = .inr (i1, z)) : oneR c nm P S D i o L i1 (o + 1) (L ++ [z]) := by
  intro τ
  refine ⟨0, L ++ [z], by show _ = _ ++ []; rw [List.append_nil], goS_1 ?_⟩
  rw [op_leaf h0 h1 h2 ho hD, h]
  rfl
theorem one_leafE (h0 : ¬ cK c i = 40) (h1 : isBg (cY c i) = true) (h2 : ¬ cY c i = 13) (ho : ¬ o = 20) (hD : ¬ 8 < D) (h : leafS c nm P S (cY c i) (cA c i) = .inl e) : oneE c nm P S D i o L e := fun τ => goS_e (by rw [op_leaf h0 h1 h2 ho hD, h])
/-- steps that stand as they should: heights -/
def hgS : List SC → Nat → Option Nat
  | [], h => some h
  | z :: r, h => if z.1 = 13 then (if 1 ≤ h then hgS r h else none) else if z.1 = 12 ∨ z.1 = 11 then (if 2 ≤ h then hgS r (h - 1) else none) else hgS r (h + 1)
theorem hgS_cons (z : SC) (r : List SC) (h : Nat) : hgS (z :: r) h = if z.1 = 13 then (if 1 ≤ h then hgS r h else none) else if z.1 = 12 ∨ z.1 = 11 then (if 2 ≤ h then hgS r (h - 1) else none) else hgS r (h + 1) := rfl
theorem hgS_app : ∀ (A B : List SC) (h : Nat), hgS (A ++ B) h = (hgS A h).bind (fun h => hgS B h) := by
  intro A
  induction A with
  | nil => intro B h; rfl
  | cons z A ih =>
    intro B h
    rw [List.cons_append, hgS_cons, hgS_cons]
    repeat' split
    all_goals first | exact ih B _ | rfl
def okZ (P S : Nat) (z : SC) : Prop := z = opc 13 ∨ z = opc 12 ∨ z = opc 11 ∨ z = (14, 0, 0) ∨ z = (3, 0, 0) ∨ z = (4, 0, 0) ∨ (z.1 = 15 ∧ z.2.1 = 0 ∧ z.2.2 < S) ∨ (z.1 = 1 ∧ z.2.1 = 0 ∧ z.2.2 < P) ∨ (isMs z.1 = true ∧ isCm z.2.1 = true ∧ z.2.2 ≤ 999)
/-- what ONE, ALL, COND add -/
def GD (P S o : Nat) (L : List SC) (o' : Nat) (L' : List SC) : Prop := o < o' ∧ o' ≤ 20 ∧ ∃ M, L' = L ++ M ∧ M.length + 1 ≤ 2 * (o' - o) ∧ (∀ h, hgS M h = some (h + 1)) ∧ ∀ z ∈ M, okZ P S z
theorem GD_len (h : GD P S o L o1 L1) : L1.length + 1 ≤ L.length + 2 * (o1 - o) := by
  obtain ⟨_, _, M, e, l, _⟩ := h
  rw [e, List.length_append]
  omega
theorem GD_leaf {z : SC} (ho : o < 20) (hz : okZ P S z) (h1 : ¬ z.1 = 13) (h2 : ¬ (z.1 = 12 ∨ z.1 = 11)) : GD P S o L (o + 1) (L ++ [z]) := by
  refine ⟨by omega, by omega, [z], rfl, by show 1 + 1 ≤ _; omega, fun h => ?_, fun y hy => ?_⟩
  · rw [hgS_cons, if_neg h1, if_neg h2]
    rfl
  · rw [List.mem_singleton] at hy
    rw [hy]
    exact hz
theorem GD_br (h : GD P S (o + 1) L o1 L1) : GD P S o L o1 L1 := by
  obtain ⟨a, b, M, e, l, r⟩ := h
  exact ⟨by omega, b, M, e, by omega, r⟩
theorem GD_not (h : GD P S (o + 1) L o1 L1) : GD P S o L o1 (L1 ++ [opc 13]) := by
  obtain ⟨a, b, M, e, l, r, q⟩ := h
  refine ⟨by omega, b, M ++ [opc 13], by rw [e, List.append_assoc], by rw [List.length_append]; show M.length + 1 + 1 ≤ _; omega, fun h => ?_, fun z hz => ?_⟩
  · rw [hgS_app, r]
    show hgS [opc 13] (h + 1) = _
    rw [hgS_cons, if_pos (show (opc 13).1 = 13 from rfl), if_pos (by omega)]
    rfl
  · rcases List.mem_append.mp hz with hz | hz
    · exact q z hz
    · rw [List.mem_singleton] at hz
      exact Or.inl hz
theorem GD_op {v : Nat} (hv : v = 12 ∨ v = 11) (h : GD P S o L o1 L1) (g : GD P S o1 L1 o2 L2) : GD P S o L o2 (L2 ++ [opc v]) := by
  obtain ⟨a, b, M, e, l, r, q⟩ := h
  obtain ⟨a2, b2, M2, e2, l2, r2, q2⟩ := g
  refine ⟨by omega, b2, M ++ M2 ++ [opc v], by rw [e2, e]; simp only [List.append_assoc], by rw [List.length_append, List.length_append]; show M.length + M2.length + 1 + 1 ≤ _; omega, fun h => ?_, fun z hz => ?_⟩
  · rw [hgS_app, hgS_app, r]
    show ((hgS M2 (h + 1)).bind fun h => hgS [opc v] h) = _
    rw [r2]
    show hgS [opc v] (h + 1 + 1) = _
    rw [hgS_cons, if_neg (by rcases hv with rfl | rfl <;> decide), if_pos (by show v = 12 ∨ v = 11; exact hv), if_pos (by omega)]
    rfl
  · rcases List.mem_append.mp hz with hz | hz
    · rcases List.mem_append.mp hz with hz | hz
      · exact q z hz
      · exact q2 z hz
    · rw [List.mem_singleton] at hz
      rcases hv with rfl | rfl
      · exact Or.inr (Or.inl hz)
      · exact Or.inr (Or.inr (Or.inl hz))
end SNB
