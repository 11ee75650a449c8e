/-! HOUR: the reference, ways and levels: what they come to -/
section RHV
variable {P p : Nat} {l k : Nat → Nat → Int32}
def nwP (pr : Nat → Int32) (p v : Nat) : Nat → Int32 := if v = 0 then pr else if v % 2 = 1 then hpair pr p ((v - 1) / 2) (nI 100) else hpair pr p ((v - 1) / 2) (nI 200)
/-- the ways from v on -/
def hV (T : Int32 → (Nat → Int32) → Zh → Zh) (l k : Nat → Nat → Int32) (P : Nat) (mt pr : Nat → Int32) (p : Nat) (met : Int32) : Nat → Nat → Zh → Zh
  | 0, _, z => z
  | r + 1, v, z => hV T l k P mt pr p met r (v + 1) (if okW l k P mt p v = true then T (met + metV l p v) (nwP pr p v) z else z)
theorem okW_odd {mt : Nat → Int32} {q : Nat} : okW l k P mt p (2 * q + 1) = decide (p < q ∧ q < P ∧ mt q < nI 0 ∧ whyI l k q p (nI 1) = nI 0) := by
  have e : (2 * q + 1 - 1) / 2 = q := by omega
  unfold okW
  rw [e]
  simp [show (2 * q + 1) % 2 = 1 by omega]
theorem okW_even {mt : Nat → Int32} {q : Nat} : okW l k P mt p (2 * q + 1 + 1) = decide (p < q ∧ q < P ∧ mt q < nI 0 ∧ whyI l k p q (nI 1) = nI 0) := by
  have e : (2 * q + 1 + 1 - 1) / 2 = q := by omega
  unfold okW
  rw [e]
  simp [show (2 * q + 1 + 1) % 2 = 0 by omega]
theorem hV_two {T : Int32 → (Nat → Int32) → Zh → Zh} {mt pr : Nat → Int32} {met : Int32} (hpr : ∀ i, i < P → (mt i < nI 0 ↔ pr i = 0)) (hP : P ≤ 8) {r q : Nat} {z : Zh} : hV T l k P mt pr p met (r + 2) (2 * q + 1) z = hV T l k P mt pr p met r (2 * (q + 1) + 1) (if p < q ∧ q < P ∧ pr q = 0 then hStep T l k pr p q met z else z) := by
  rw [hV, hV, okW_odd, okW_even]
  have n1 : nwP pr p (2 * q + 1) = hpair pr p q 100 := by
    unfold nwP
    rw [if_neg (by omega), if_pos (by omega), show (2 * q + 1 - 1) / 2 = q by omega]
    rfl
  have n2 : nwP pr p (2 * q + 1 + 1) = hpair pr p q 200 := by
    unfold nwP
    rw [if_neg (by omega), if_neg (by omega), show (2 * q + 1 + 1 - 1) / 2 = q by omega]
    rfl
  have m1 : metV l p (2 * q + 1) = l 1 p := by unfold metV; rw [if_neg (by omega), if_pos (by omega)]
  have m2 : metV l p (2 * q + 1 + 1) = l 1 q := by unfold metV; rw [if_neg (by omega), if_neg (by omega), show (2 * q + 1 + 1 - 1) / 2 = q by omega]
  rw [n1, n2, m1, m2]
  have e : 2 * q + 1 + 1 + 1 = 2 * (q + 1) + 1 := by omega
  rw [e]
  congr 1
  have i1 : whyI l k q p (nI 1) = whyI l k q p 1 := rfl
  have i2 : whyI l k p q (nI 1) = whyI l k p q 1 := rfl
  have i0 : (nI 0 : Int32) = 0 := rfl
  rw [i1, i2, i0]
  by_cases c : p < q ∧ q < P ∧ pr q = 0
  · obtain ⟨c1, c2, c3⟩ := c
    have c4 : mt q < 0 := (hpr q c2).mpr c3
    rw [if_pos (show p < q ∧ q < P ∧ pr q = 0 from ⟨c1, c2, c3⟩)]
    unfold hStep
    by_cases a : whyI l k p q 1 = 0 <;> by_cases b : whyI l k q p 1 = 0 <;> simp [a, b, c1, c2, c3, c4]
  · rw [if_neg c]
    have : ∀ w : Prop, ¬ (p < q ∧ q < P ∧ mt q < 0 ∧ w) := fun w h => c ⟨h.1, h.2.1, (hpr q h.2.1).mp h.2.2.1⟩
    simp [this]
theorem hV_loop {T : Int32 → (Nat → Int32) → Zh → Zh} {mt pr : Nat → Int32} {met : Int32} (hpr : ∀ i, i < P → (mt i < nI 0 ↔ pr i = 0)) (hP : P ≤ 8) : ∀ (r q : Nat) (z : Zh), q + r = 8 → p < q → q ≤ P → hV T l k P mt pr p met (2 * r) (2 * q + 1) z = hLoop T l k pr p met q (P - q) z := by
  intro r
  induction r with
  | zero =>
    intro q z h1 h2 h3
    have : P - q = 0 := by omega
    rw [this]
    rfl
  | succ r ih =>
    intro q z h1 h2 h3
    rw [show 2 * (r + 1) = 2 * r + 2 by omega, hV_two hpr hP]
    by_cases c : q < P
    · rw [ih (q + 1) _ (by omega) (by omega) (by omega)]
      rw [show P - q = P - (q + 1) + 1 by omega, hLoop]
      by_cases c3 : pr q = 0
      · rw [if_pos (show p < q ∧ q < P ∧ pr q = 0 from ⟨h2, c, c3⟩), if_pos c3]
      · rw [if_neg (fun h => c3 h.2.2), if_neg c3]
    · have hq : q = P := by omega
      subst hq
      rw [if_neg (fun h => by omega), Nat.sub_self]
      show _ = z
      have : ∀ (r v : Nat) (z : Zh), q ≤ v → hV T l k q mt pr p met (2 * r) (2 * v + 1) z = z := by
        intro r
        induction r with
        | zero => intro v z _; rfl
        | succ r ih2 =>
          intro v z hv
          rw [show 2 * (r + 1) = 2 * r + 2 by omega, hV_two hpr hP, if_neg (fun h => by omega)]
          exact ih2 (v + 1) z (by omega)
      exact this r (q + 1) z (by omega)
theorem hV_skip {T : Int32 → (Nat → Int32) → Zh → Zh} {mt pr : Nat → Int32} {met : Int32} (hpr : ∀ i, i < P → (mt i < nI 0 ↔ pr i = 0)) (hP : P ≤ 8) (hp : p < P) : ∀ (c q r : Nat) (z : Zh), q + c = p + 1 → q + r = 8 → hV T l k P mt pr p met (2 * r) (2 * q + 1) z = hLoop T l k pr p met (p + 1) (P - (p + 1)) z := by
  intro c
  induction c with
  | zero =>
    intro q r z h1 h2
    have : q = p + 1 := by omega
    subst this
    exact hV_loop hpr hP r (p + 1) z h2 (by omega) (by omega)
  | succ c ih =>
    intro q r z h1 h2
    rw [show 2 * r = 2 * (r - 1) + 2 by omega, hV_two hpr hP, if_neg (fun h => by omega)]
    exact ih (q + 1) (r - 1) z (by omega) (by omega)
theorem hT_skip {pr : Nat → Int32} {n : Nat} {met : Int32} {z : Zh} (hp : p < P) (hn : P - p ≤ n) (h : ¬ pr p = 0) : hT l k P n p met pr z = hT l k P n (p + 1) met pr z := by
  obtain ⟨n', rfl⟩ : ∃ n', n = n' + 1 := ⟨n - 1, by omega⟩
  have e : hfp pr (P - p) p = hfp pr (P - (p + 1)) (p + 1) := by
    rw [show P - p = P - (p + 1) + 1 by omega]
    conv => lhs; unfold hfp
    rw [if_neg h]
  rw [hT, hT, e]
theorem hT_free {pr : Nat → Int32} {n : Nat} {met : Int32} {z : Zh} (hp : p < P) (h : pr p = 0) : hT l k P (n + 1) p met pr z = hLoop (fun m pr' z => hT l k P n (p + 1) m pr' z) l k pr p met (p + 1) (P - (p + 1)) (hT l k P n (p + 1) met pr z) := by
  have e : hfp pr (P - p) p = p := by
    rw [show P - p = P - (p + 1) + 1 by omega]
    unfold hfp
    rw [if_pos h]
  rw [hT, e, if_pos hp]
theorem hT_leaf {pr : Nat → Int32} {n : Nat} {met : Int32} {z : Zh} : hT l k P n P met pr z = hkeep pr met z := by
  cases n with
  | zero => rfl
  | succ n => rw [hT, Nat.sub_self, show hfp pr 0 P = P from rfl, if_neg (by omega)]
end RHV
