/-! THE CLASS'S LIVES AND CHARTERS as rows -/
section VIE
variable {G : ai_G} {d n sl : Nat} {Q : List Value → Nat → Nat → ai_M → Prop} {Y : mY} {X : mX}
def lv (X : mX) (o : Nat) : Nat → Nat → Int32 := fun j => if j ≤ 8 then X (o + j) else fun _ => X o j
def cv (X : mX) (c : Nat) : Nat → Nat → Int32 := fun j => if j < 7 then X (c + 1 + j) else fun _ => X c j
def nv (Y : mY) (c : Nat) : Nat → Nat → Int64 := fun j => Y (c + 1 + j)
/-- the Life at o is l -/
def plv (X : mX) (o : Nat) (l : Nat → Nat → Int32) : mX := fun k => if k = o then (fun j => if 9 ≤ j ∧ j ≤ 13 then l j 0 else X o j) else if o < k ∧ k ≤ o + 8 then l (k - o) else X k
def isLf (o : Nat) : Prop := o = 19 ∨ o = 61 ∨ o = 70 ∨ o = 81 ∨ o = 90 ∨ o = 99 ∨ o = 108 ∨ o = 117 ∨ o = 126 ∨ o = 135 ∨ o = 144 ∨ o = 167 ∨ o = 190
def isCh (c : Nat) : Prop := c = 6 ∨ c = 47 ∨ c = 154 ∨ c = 177
theorem lf_mem {o : Nat} (h : isLf o) : lf (mem X Y) 231 o (chO o) (lv X o) := by
  rcases h with rfl | rfl | rfl | rfl | rfl | rfl | rfl | rfl | rfl | rfl | rfl | rfl | rfl <;> exact ⟨by omega, rfl, rfl, rfl, rfl, rfl, rfl, rfl, rfl, rfl⟩
theorem ch_mem {c : Nat} (h : isCh c) : ch (mem X Y) 231 c (cv X c) (nv Y c) := by
  rcases h with rfl | rfl | rfl | rfl <;> exact ⟨by omega, rfl, rfl, rfl, rfl, rfl, rfl, rfl, rfl⟩
theorem mem_of_lf {o : Nat} (h : isLf o) {M' : ai_M} {l : Nat → Nat → Int32} (hl : lf M' 231 o (chO o) l) (hk : ∀ j, j < o ∨ o + 8 < j → M' j = mem X Y j) : M' = mem (plv X o l) Y := by
  have hl2 := hl
  have hm := lf_mem (X := plv X o l) (Y := Y) h
  obtain ⟨a0, a1, a2, a3, a4, a5, a6, a7, a8, a9⟩ := hl2
  obtain ⟨b0, b1, b2, b3, b4, b5, b6, b7, b8, b9⟩ := hm
  have e : ∀ j, 1 ≤ j → j ≤ 8 → lv (plv X o l) o j = l j := by
    intro j h1 h2
    unfold lv plv
    rw [if_pos h2]
    simp only [show ¬ o + j = o by omega, if_false, show o < o + j ∧ o + j ≤ o + 8 by omega, and_self, if_true, Nat.add_sub_cancel_left]
  have e9 : ∀ j, 9 ≤ j → j ≤ 13 → lv (plv X o l) o j 0 = l j 0 := by
    intro j h1 h2
    unfold lv plv
    rw [if_neg (by omega)]
    simp [h1, h2]
  funext j
  by_cases c : j < o ∨ o + 8 < j
  · rw [hk j c]
    show memE X Y j (shC j) = memE (plv X o l) Y j (shC j)
    have ej : plv X o l j = X j := by
      unfold plv
      rw [if_neg (by omega), if_neg (by omega)]
    unfold memE
    split <;> first | (simp only [ej]; done) | rfl | rw [memF_same (X := X) (X' := plv X o l) (Y := Y) (Y' := Y) _ _ (fun i _ => by rw [ej]) (fun _ _ => rfl)]
  · rcases (show j = o ∨ j = o + 1 ∨ j = o + 2 ∨ j = o + 3 ∨ j = o + 4 ∨ j = o + 5 ∨ j = o + 6 ∨ j = o + 7 ∨ j = o + 8 by omega) with rfl | rfl | rfl | rfl | rfl | rfl | rfl | rfl | rfl
    · rw [a1, b1, e9 9 (by omega) (by omega), e9 10 (by omega) (by omega), e9 11 (by omega) (by omega), e9 12 (by omega) (by omega), e9 13 (by omega) (by omega)]
    · rw [a2, b2, e 1 (by omega) (by omega)]
    · rw [a3, b3, e 2 (by omega) (by omega)]
    · rw [a4, b4, e 3 (by omega) (by omega)]
    · rw [a5, b5, e 4 (by omega) (by omega)]
    · rw [a6, b6, e 5 (by omega) (by omega)]
    · rw [a7, b7, e 6 (by omega) (by omega)]
    · rw [a8, b8, e 7 (by omega) (by omega)]
    · rw [a9, b9, e 8 (by omega) (by omega)]
theorem lv_plv_row {o : Nat} {l : Nat → Nat → Int32} {j : Nat} (h1 : 1 ≤ j) (h2 : j ≤ 8) : lv (plv X o l) o j = l j := by
  unfold lv plv
  rw [if_pos h2]
  simp only [show ¬ o + j = o by omega, if_false, show o < o + j ∧ o + j ≤ o + 8 by omega, and_self, if_true, Nat.add_sub_cancel_left]
theorem lv_plv_num {o : Nat} {l : Nat → Nat → Int32} {j : Nat} (h1 : 9 ≤ j) (h2 : j ≤ 13) : lv (plv X o l) o j 0 = l j 0 := by
  unfold lv plv
  rw [if_neg (by omega)]
  simp [h1, h2]
theorem plv_out {o : Nat} {l : Nat → Nat → Int32} {j : Nat} (h : j < o ∨ o + 8 < j) : plv X o l j = X j := by
  unfold plv
  rw [if_neg (by omega), if_neg (by omega)]
/-- cells that a Life doesn't reach -/
theorem lv_up {o k : Nat} {f : Nat → Int32} (h : k < o ∨ o + 8 < k) : lv (va_up X k f) o = lv X o := by
  funext j
  unfold lv
  by_cases c : j ≤ 8
  · simp only [if_pos c, va_up, show ¬ o + j = k by omega, if_false]
  · simp only [if_neg c, va_up, show ¬ o = k by omega, if_false]
theorem cv_up {c k : Nat} {f : Nat → Int32} (h : k < c ∨ c + 7 < k) : cv (va_up X k f) c = cv X c := by
  funext j
  unfold cv
  by_cases e : j < 7
  · simp only [if_pos e, va_up, show ¬ c + 1 + j = k by omega, if_false]
  · simp only [if_neg e, va_up, show ¬ c = k by omega, if_false]
theorem lv_plv_ne {o o2 : Nat} {l : Nat → Nat → Int32} (h : o + 8 < o2 ∨ o2 + 8 < o) : lv (plv X o2 l) o = lv X o := by
  funext j
  unfold lv
  by_cases c : j ≤ 8
  · simp only [if_pos c]; exact plv_out (by omega)
  · simp only [if_neg c]; rw [plv_out (by omega)]
theorem cv_plv {c o2 : Nat} {l : Nat → Nat → Int32} (h : c + 7 < o2 ∨ o2 + 8 < c) : cv (plv X o2 l) c = cv X c := by
  funext j
  unfold cv
  by_cases e : j < 7
  · simp only [if_pos e]; exact plv_out (by omega)
  · simp only [if_neg e]; rw [plv_out (by omega)]
theorem aw_out {mi pc d' n0 : Nat} {L : ai_L} {st : List Value} {M0 M' : ai_M} {r : List Value} (h : ∀ Q : List Value → Nat → Nat → ai_M → Prop, Q r n0 sl M' → aw ET G d' mi pc L st n0 sl M0 Q) (Q : List Value → Nat → Nat → ai_M → Prop) : aw ET G d' mi pc L st n0 sl M0 Q = Q r n0 sl M' := by
  apply propext
  constructor
  · intro q
    have h1 := h (fun r' n' sl' M2 => r' = r ∧ n' = n0 ∧ sl' = sl ∧ M2 = M') ⟨rfl, rfl, rfl, rfl⟩
    obtain ⟨f1, z1, r1, a1, a2, a3⟩ := q
    obtain ⟨f2, z2, r2, b1, b2, b3, b4, b5, b6⟩ := h1
    have c1 := ai_run_le a1 (Nat.le_max_left f1 f2)
    have c2 := ai_run_le b1 (Nat.le_max_right f1 f2)
    rw [c1] at c2
    cases c2
    rw [a2] at b2
    cases b2
    subst b3
    rw [b4, b5, b6] at a3
    exact a3
  · exact h Q
theorem whyM {a b : Nat} {x : Int32} {o : Nat} (ho : isLf o) (hc : isCh (chO o)) (ha : a < 8) (hb : b < 8) : aw ET G (d + 1) 68 0 [some (.ref o), some (.int (nI a)), some (.int (nI b)), some (.int x)] [] 231 sl (mem X Y) Q = Q [.int (whyI (lv X o) (cv X (chO o)) a b x)] 231 sl (mem X Y) := whyNotHear_eq (lf_mem ho) (ch_mem hc) ha hb
end VIE
