/-! THE TEXT OF A TOWN: the class, IV: what is held, LINE by LINE -/
section TWP
variable {G : ai_G} {d sl : Nat} {Q : List Value → Nat → Nat → ai_M → Prop} {Y : mY} {X : mX} {c : TC} {i P S : Nat} {f : Nat → Int32} {g : Nat → Int64} {flt : Int32} {nm : Nat → List Nat} {D : TD}
def DC1 (X : mX) (Y : mY) (D : TD) (P S : Nat) : Prop := P ≤ 8 ∧ S ≤ 8 ∧ D.1 0 = nI P ∧ D.1 1 = nI S ∧ X 6 7 = nI P ∧ X 6 8 = nI S ∧ DN Y D.2.1 P S ∧ X 6 11 = D.1 2 ∧ X 6 12 = D.1 3 ∧ X 4 0 = b01 (D.2.2.1 = true) ∧ X 4 1 = b01 (D.2.2.2 = true)
def DC2 (X : mX) (D : TD) (P S : Nat) : Prop := (∀ p, p < 8 → D.1 (28 + p) = b01 (bit (X 6 9) (nI p) = 1)) ∧ (∀ p, p < 8 → D.1 (36 + p) = b01 (bit (X 6 10) (nI p) = 1)) ∧ (∀ p, p < P → X 8 p = D.1 (12 + p)) ∧ (∀ p, p < P → X 9 p = D.1 (20 + p)) ∧ (∀ i, i < S → X 11 i = D.1 (44 + i)) ∧ (∀ i, i < S → X 12 i = D.1 (52 + i)) ∧ (∀ i, i < S → X 13 i = D.1 (60 + i)) ∧ (∀ p, p < 8 → X 20 p = D.1 (4 + p)) ∧ (∀ p, p < 8 → X 21 p = D.1 (12 + p)) ∧ (∀ i, i < 64 → X 24 i = D.1 (68 + i)) ∧ (∀ i, i < 8 → X 26 i = if i < S then nI 1 <<< (D.1 (44 + i) &&& 31) else nI 0)
def DC3 (D : TD) (P S : Nat) : Prop := (∃ v, v ≤ 9 ∧ D.1 2 = nI v) ∧ (∃ v, 1 ≤ v ∧ v ≤ 99 ∧ D.1 3 = nI v) ∧ (∀ p, p < 8 → ∃ v, v ≤ 99 ∧ D.1 (4 + p) = nI v) ∧ (∀ p, p < 8 → ∃ v, v ≤ 24 ∧ D.1 (12 + p) = nI v) ∧ (∀ p, p < 8 → ∃ v, v ≤ 9 ∧ D.1 (20 + p) = nI v) ∧ (∀ i, i < S → ∃ v, v < P ∧ D.1 (44 + i) = nI v) ∧ (∀ i, i < 8 → ∃ v, v ≤ 99 ∧ D.1 (52 + i) = nI v) ∧ (∀ i, i < 8 → ∃ v, v ≤ 9 ∧ D.1 (60 + i) = nI v) ∧ (∀ i, i < 64 → ∃ v, v ≤ 99 ∧ D.1 (68 + i) = nI v)
def DC4 (X : mX) : Prop := (∀ p, p < 8 → X 22 p = nI 0 ∧ X 23 p = nI 0 ∧ X 25 p = nI 0) ∧ X 19 9 = nI 0 ∧ X 19 10 = nI 0 ∧ X 19 11 = nI 0 ∧ X 19 12 = nI 0 ∧ X 19 13 = nI 0
def DC (X : mX) (Y : mY) (D : TD) (P S : Nat) : Prop := DC1 X Y D P S ∧ DC2 X D P S ∧ DC3 D P S ∧ DC4 X
def FR (X X' : mX) : Prop := ∀ k, k < 2 ∨ k = 14 ∨ 28 ≤ k → X' k = X k
def FY (Y Y' : mY) : Prop := ∀ k, k < 2 ∨ 11 ≤ k → Y' k = Y k
theorem FR.tr {X X' X2 : mX} (h : FR X X') (h2 : FR X' X2) : FR X X2 := fun k hk => (h2 k hk).trans (h k hk)
theorem FY.tr {Y Y' Y2 : mY} (h : FY Y Y') (h2 : FY Y' Y2) : FY Y Y2 := fun k hk => (h2 k hk).trans (h k hk)
theorem OKc_fr {X X' : mX} (h : OKc c X) (hf : FR X X') : OKc c X' := by
  obtain ⟨a, b⟩ := h
  refine ⟨?_, b⟩
  rw [hf 1 (by omega)]
  exact a
theorem DN_u (h : DN Y nm P S) {w : List Nat} {g' : Nat → Int64} (hw : WD w) (hP : P < 8) : DN (perY Y g' P w) (nmU nm P w) (P + 1) S := by
  refine ⟨fun q hq => ?_, fun q hq => ?_⟩
  · by_cases e : q = P
    · subst e
      simp [perY, nmU, va_up, vp_updL, hw]
    · have := h.1 q (by omega)
      simpa [perY, nmU, va_up, vp_updL, e] using this
  · have := h.2 q hq
    have e : ¬ 8 + q = P := by omega
    simpa [perY, nmU, nmS, va_up, e] using this
theorem DN_v (h : DN Y nm P S) {w : List Nat} {g' : Nat → Int64} (hw : WD w) (hP : P ≤ 8) : DN (stoY Y g' S w) (nmU nm (8 + S) w) P (S + 1) := by
  refine ⟨fun q hq => ?_, fun q hq => ?_⟩
  · have := h.1 q hq
    have e : ¬ q = 8 + S := by omega
    simpa [stoY, nmU, va_up, e] using this
  · by_cases e : q = S
    · subst e
      simp [stoY, nmU, nmS, va_up, vp_updL, hw]
    · have := h.2 q (by omega)
      simpa [stoY, nmU, nmS, va_up, vp_updL, e] using this
theorem DC_fg {f' : Nat → Int32} {g' : Nat → Int64} (h : DC X Y D P S) : DC (va_up X 2 f') (va_up Y 2 g') D P S := h
theorem DC_per {a b z : Nat} {w : List Nat} {f' : Nat → Int32} {g' : Nat → Int64} (h : DC X Y D P S) (hP : P < 8) (hw : WD w) (ha : a ≤ 99) (hb : b ≤ 24) (hz : z ≤ 9) : DC (perX X f' P a b z) (perY Y g' P w) (upd (upd (upd (upd D.1 (4 + P) (nI a)) (12 + P) (nI b)) (20 + P) (nI z)) 0 (nI (P + 1)), nmU D.2.1 P w, D.2.2) (P + 1) S := by
  obtain ⟨⟨a1, a2, a3, a4, a5, a6, a7, a8, a9, a10, a11⟩, ⟨b1, b2, b3, b4, b5, b6, b7, b8, b9, b10, b11⟩, ⟨c1, c2, c3, c4, c5, c6, c7, c8, c9⟩, e1, e2⟩ := h
  refine ⟨⟨by omega, a2, ?_, ?_, ?_, ?_, DN_u a7 hw hP, ?_, ?_, ?_, ?_⟩, ⟨?_, ?_, ?_, ?_, ?_, ?_, ?_, ?_, ?_, ?_, ?_⟩, ⟨?_, ?_, ?_, ?_, ?_, ?_, ?_, ?_, ?_⟩, ?_, ?_⟩
  all_goals (try unfold perX)
  · simp (disch := omega) only [pk_un, pk_us]
  · simp (disch := omega) only [pk_un, pk_us]; exact a4
  · simp (disch := omega) only [va_up_ne, va_up_self, pk_un, pk_us]
  · simp (disch := omega) only [va_up_ne, va_up_self, pk_un, pk_us]; exact a6
  · simp (disch := omega) only [va_up_ne, va_up_self, pk_un, pk_us]; exact a8
  · simp (disch := omega) only [va_up_ne, va_up_self, pk_un, pk_us]; exact a9
  · simp (disch := omega) only [va_up_ne, va_up_self, pk_un, pk_us]; exact a10
  · simp (disch := omega) only [va_up_ne, va_up_self, pk_un, pk_us]; exact a11
  · intro p hp; simp (disch := omega) only [va_up_ne, va_up_self, pk_un, pk_us]; exact b1 p hp
  · intro p hp; simp (disch := omega) only [va_up_ne, va_up_self, pk_un, pk_us]; exact b2 p hp
  · intro p hp
    by_cases e : p = P
    · subst e; simp (disch := omega) only [va_up_ne, va_up_self, pk_un, pk_us]
    · simp (disch := omega) only [va_up_ne, va_up_self, pk_un, pk_us]; exact b3 p (by omega)
  · intro p hp
    by_cases e : p = P
    · subst e; simp (disch := omega) only [va_up_ne, va_up_self, pk_un, pk_us]
    · simp (disch := omega) only [va_up_ne, va_up_self, pk_un, pk_us]; exact b4 p (by omega)
  · intro p hp; simp (disch := omega) only [va_up_ne, va_up_self, pk_un, pk_us]; exact b5 p hp
  · intro p hp; simp (disch := omega) only [va_up_ne, va_up_self, pk_un, pk_us]; exact b6 p hp
  · intro p hp; simp (disch := omega) only [va_up_ne, va_up_self, pk_un, pk_us]; exact b7 p hp
  · intro p hp
    by_cases e : p = P
    · subst e; simp (disch := omega) only [va_up_ne, va_up_self, pk_un, pk_us]
    · simp (disch := omega) only [va_up_ne, va_up_self, pk_un, pk_us]; exact b8 p (by omega)
  · intro p hp
    by_cases e : p = P
    · subst e; simp (disch := omega) only [va_up_ne, va_up_self, pk_un, pk_us]
    · simp (disch := omega) only [va_up_ne, va_up_self, pk_un, pk_us]; exact b9 p (by omega)
  · intro p hp; simp (disch := omega) only [va_up_ne, va_up_self, pk_un, pk_us]; exact b10 p hp
  · intro p hp; simp (disch := omega) only [va_up_ne, va_up_self, pk_un, pk_us]; exact b11 p hp
  · simp (disch := omega) only [pk_un, pk_us]; exact c1
  · simp (disch := omega) only [pk_un, pk_us]; exact c2
  · intro p hp
    by_cases e : p = P
    · subst e; simp (disch := omega) only [pk_un, pk_us]; exact ⟨a, ha, rfl⟩
    · simp (disch := omega) only [pk_un, pk_us]; exact c3 p hp
  · intro p hp
    by_cases e : p = P
    · subst e; simp (disch := omega) only [pk_un, pk_us]; exact ⟨b, hb, rfl⟩
    · simp (disch := omega) only [pk_un, pk_us]; exact c4 p hp
  · intro p hp
    by_cases e : p = P
    · subst e; simp (disch := omega) only [pk_un, pk_us]; exact ⟨z, hz, rfl⟩
    · simp (disch := omega) only [pk_un, pk_us]; exact c5 p hp
  · intro p hp; simp (disch := omega) only [pk_un, pk_us]; obtain ⟨v, hv, ev⟩ := c6 p hp; exact ⟨v, by omega, ev⟩
  · intro p hp; simp (disch := omega) only [pk_un, pk_us]; exact c7 p hp
  · intro p hp; simp (disch := omega) only [pk_un, pk_us]; exact c8 p hp
  · intro p hp; simp (disch := omega) only [pk_un, pk_us]; exact c9 p hp
  · intro p hp; simp (disch := omega) only [va_up_ne, va_up_self, pk_un, pk_us]; exact e1 p hp
  · simp (disch := omega) only [va_up_ne, va_up_self, pk_un, pk_us]; exact e2
theorem DC_sto {a b z : Nat} {w : List Nat} {f' : Nat → Int32} {g' : Nat → Int64} (h : DC X Y D P S) (hS : S < 8) (hw : WD w) (ha : a < P) (hb : b ≤ 99) (hz : z ≤ 9) : DC (stoX X f' S a b z) (stoY Y g' S w) (upd (upd (upd (upd D.1 (44 + S) (nI a)) (52 + S) (nI b)) (60 + S) (nI z)) 1 (nI (S + 1)), nmU D.2.1 (8 + S) w, D.2.2) P (S + 1) := by
  obtain ⟨⟨a1, a2, a3, a4, a5, a6, a7, a8, a9, a10, a11⟩, ⟨b1, b2, b3, b4, b5, b6, b7, b8, b9, b10, b11⟩, ⟨c1, c2, c3, c4, c5, c6, c7, c8, c9⟩, e1, e2⟩ := h
  refine ⟨⟨a1, by omega, ?_, ?_, ?_, ?_, DN_v a7 hw a1, ?_, ?_, ?_, ?_⟩, ⟨?_, ?_, ?_, ?_, ?_, ?_, ?_, ?_, ?_, ?_, ?_⟩, ⟨?_, ?_, ?_, ?_, ?_, ?_, ?_, ?_, ?_⟩, ?_, ?_⟩
  all_goals (try unfold stoX)
  · simp (disch := omega) only [pk_un, pk_us]; exact a3
  · simp (disch := omega) only [pk_un, pk_us]
  · simp (disch := omega) only [va_up_ne, va_up_self, pk_un, pk_us]; exact a5
  · simp (disch := omega) only [va_up_ne, va_up_self, pk_un, pk_us]
  · simp (disch := omega) only [va_up_ne, va_up_self, pk_un, pk_us]; exact a8
  · simp (disch := omega) only [va_up_ne, va_up_self, pk_un, pk_us]; exact a9
  · simp (disch := omega) only [va_up_ne, va_up_self, pk_un, pk_us]; exact a10
  · simp (disch := omega) only [va_up_ne, va_up_self, pk_un, pk_us]; exact a11
  · intro p hp; simp (disch := omega) only [va_up_ne, va_up_self, pk_un, pk_us]; exact b1 p hp
  · intro p hp; simp (disch := omega) only [va_up_ne, va_up_self, pk_un, pk_us]; exact b2 p hp
  · intro p hp; simp (disch := omega) only [va_up_ne, va_up_self, pk_un, pk_us]; exact b3 p hp
  · intro p hp; simp (disch := omega) only [va_up_ne, va_up_self, pk_un, pk_us]; exact b4 p hp
  · intro p hp
    by_cases e : p = S
    · subst e; simp (disch := omega) only [va_up_ne, va_up_self, pk_un, pk_us]
    · simp (disch := omega) only [va_up_ne, va_up_self, pk_un, pk_us]; exact b5 p (by omega)
  · intro p hp
    by_cases e : p = S
    · subst e; simp (disch := omega) only [va_up_ne, va_up_self, pk_un, pk_us]
    · simp (disch := omega) only [va_up_ne, va_up_self, pk_un, pk_us]; exact b6 p (by omega)
  · intro p hp
    by_cases e : p = S
    · subst e; simp (disch := omega) only [va_up_ne, va_up_self, pk_un, pk_us]
    · simp (disch := omega) only [va_up_ne, va_up_self, pk_un, pk_us]; exact b7 p (by omega)
  · intro p hp; simp (disch := omega) only [va_up_ne, va_up_self, pk_un, pk_us]; exact b8 p hp
  · intro p hp; simp (disch := omega) only [va_up_ne, va_up_self, pk_un, pk_us]; exact b9 p hp
  · intro p hp; simp (disch := omega) only [va_up_ne, va_up_self, pk_un, pk_us]; exact b10 p hp
  · intro p hp
    by_cases e : p = S
    · subst e; simp (disch := omega) only [va_up_ne, va_up_self, pk_un, pk_us]; rw [if_pos (by omega)]
    · have h2 := b11 p hp
      simp (disch := omega) only [va_up_ne, va_up_self, pk_un, pk_us]
      rw [h2]
      by_cases e2 : p < S
      · rw [if_pos e2, if_pos (by omega)]
      · rw [if_neg e2, if_neg (by omega)]
  · simp (disch := omega) only [pk_un, pk_us]; exact c1
  · simp (disch := omega) only [pk_un, pk_us]; exact c2
  · intro p hp; simp (disch := omega) only [pk_un, pk_us]; exact c3 p hp
  · intro p hp; simp (disch := omega) only [pk_un, pk_us]; exact c4 p hp
  · intro p hp; simp (disch := omega) only [pk_un, pk_us]; exact c5 p hp
  · intro p hp
    by_cases e : p = S
    · subst e; simp (disch := omega) only [pk_un, pk_us]; exact ⟨a, ha, rfl⟩
    · simp (disch := omega) only [pk_un, pk_us]; exact c6 p (by omega)
  · intro p hp
    by_cases e : p = S
    · subst e; simp (disch := omega) only [pk_un, pk_us]; exact ⟨b, hb, rfl⟩
    · simp (disch := omega) only [pk_un, pk_us]; exact c7 p hp
  · intro p hp
    by_cases e : p = S
    · subst e; simp (disch := omega) only [pk_un, pk_us]; exact ⟨z, hz, rfl⟩
    · simp (disch := omega) only [pk_un, pk_us]; exact c8 p hp
  · intro p hp; simp (disch := omega) only [pk_un, pk_us]; exact c9 p hp
  · intro p hp; simp (disch := omega) only [va_up_ne, va_up_self, pk_un, pk_us]; exact e1 p hp
  · simp (disch := omega) only [va_up_ne, va_up_self, pk_un, pk_us]; exact e2
theorem DC_not {a b z : Nat} {f' : Nat → Int32} (h : DC X Y D P S) (ha : a < P) (hb : b < P) (hz : z ≤ 99) : DC (notX X f' a b z) Y (upd D.1 (68 + 8 * a + b) (nI z), D.2) P S := by
  obtain ⟨⟨a1, a2, a3, a4, a5, a6, a7, a8, a9, a10, a11⟩, ⟨b1, b2, b3, b4, b5, b6, b7, b8, b9, b10, b11⟩, ⟨c1, c2, c3, c4, c5, c6, c7, c8, c9⟩, e1, e2⟩ := h
  have ei : 68 + 8 * a + b = 68 + (a * 8 + b) := by omega
  rw [ei]
  refine ⟨⟨a1, a2, ?_, ?_, ?_, ?_, a7, ?_, ?_, ?_, ?_⟩, ⟨?_, ?_, ?_, ?_, ?_, ?_, ?_, ?_, ?_, ?_, ?_⟩, ⟨?_, ?_, ?_, ?_, ?_, ?_, ?_, ?_, ?_⟩, ?_, ?_⟩
  all_goals (try unfold notX)
  · simp (disch := omega) only [pk_un, pk_us]; exact a3
  · simp (disch := omega) only [pk_un, pk_us]; exact a4
  · simp (disch := omega) only [va_up_ne]; exact a5
  · simp (disch := omega) only [va_up_ne]; exact a6
  · simp (disch := omega) only [va_up_ne, pk_un]; exact a8
  · simp (disch := omega) only [va_up_ne, pk_un]; exact a9
  · simp (disch := omega) only [va_up_ne]; exact a10
  · simp (disch := omega) only [va_up_ne]; exact a11
  · intro p hp; simp (disch := omega) only [va_up_ne, pk_un]; exact b1 p hp
  · intro p hp; simp (disch := omega) only [va_up_ne, pk_un]; exact b2 p hp
  · intro p hp; simp (disch := omega) only [va_up_ne, pk_un]; exact b3 p hp
  · intro p hp; simp (disch := omega) only [va_up_ne, pk_un]; exact b4 p hp
  · intro p hp; simp (disch := omega) only [va_up_ne, pk_un]; exact b5 p hp
  · intro p hp; simp (disch := omega) only [va_up_ne, pk_un]; exact b6 p hp
  · intro p hp; simp (disch := omega) only [va_up_ne, pk_un]; exact b7 p hp
  · intro p hp; simp (disch := omega) only [va_up_ne, pk_un]; exact b8 p hp
  · intro p hp; simp (disch := omega) only [va_up_ne, pk_un]; exact b9 p hp
  · intro p hp
    by_cases e : p = a * 8 + b
    · subst e; simp (disch := omega) only [va_up_ne, va_up_self, pk_us]
    · simp (disch := omega) only [va_up_ne, va_up_self, pk_un]; exact b10 p hp
  · intro p hp; simp (disch := omega) only [va_up_ne, pk_un]; exact b11 p hp
  · simp (disch := omega) only [pk_un]; exact c1
  · simp (disch := omega) only [pk_un]; exact c2
  · intro p hp; simp (disch := omega) only [pk_un]; exact c3 p hp
  · intro p hp; simp (disch := omega) only [pk_un]; exact c4 p hp
  · intro p hp; simp (disch := omega) only [pk_un]; exact c5 p hp
  · intro p hp; simp (disch := omega) only [pk_un]; exact c6 p hp
  · intro p hp; simp (disch := omega) only [pk_un]; exact c7 p hp
  · intro p hp; simp (disch := omega) only [pk_un]; exact c8 p hp
  · intro p hp
    by_cases e : p = a * 8 + b
    · subst e; simp (disch := omega) only [pk_us]; exact ⟨z, hz, rfl⟩
    · simp (disch := omega) only [pk_un]; exact c9 p hp
  · intro p hp; simp (disch := omega) only [va_up_ne]; exact e1 p hp
  · simp (disch := omega) only [va_up_ne]; exact e2
theorem DC_mar {a j to : Nat} {f' : Nat → Int32} (h : DC X Y D P S) (ha : a < P) (hj : (j = 9 ∧ to = 28) ∨ (j = 10 ∧ to = 36)) : DC (marX X f' j a) Y (upd D.1 (to + a) 1, D.2) P S := by
  obtain ⟨⟨a1, a2, a3, a4, a5, a6, a7, a8, a9, a10, a11⟩, ⟨b1, b2, b3, b4, b5, b6, b7, b8, b9, b10, b11⟩, ⟨c1, c2, c3, c4, c5, c6, c7, c8, c9⟩, e1, e2⟩ := h
  have hb : ∀ w p, p < 8 → (bit (w ||| nI 1 <<< (nI a &&& 31)) (nI p) = 1) = (p = a ∨ bit w (nI p) = 1) := fun w p hp => bit_or1 (by omega) (by omega)
  refine ⟨⟨a1, a2, ?_, ?_, ?_, ?_, a7, ?_, ?_, ?_, ?_⟩, ⟨?_, ?_, ?_, ?_, ?_, ?_, ?_, ?_, ?_, ?_, ?_⟩, ⟨?_, ?_, ?_, ?_, ?_, ?_, ?_, ?_, ?_⟩, ?_, ?_⟩
  all_goals (try unfold marX)
  · simp (disch := omega) only [pk_un]; exact a3
  · simp (disch := omega) only [pk_un]; exact a4
  · simp (disch := omega) only [va_up_self, pk_un]; exact a5
  · simp (disch := omega) only [va_up_self, pk_un]; exact a6
  · simp (disch := omega) only [va_up_self, pk_un]; exact a8
  · simp (disch := omega) only [va_up_self, pk_un]; exact a9
  · simp (disch := omega) only [va_up_ne]; exact a10
  · simp (disch := omega) only [va_up_ne]; exact a11
  · intro p hp
    rcases hj with ⟨rfl, rfl⟩ | ⟨rfl, rfl⟩
    · simp only [va_up_self, pk_us, hb _ p hp]
      by_cases e : p = a
      · subst e; simp [upd, b01]
      · rw [pk_un (by omega), b1 p hp]; simp only [e, false_or]
    · simp (disch := omega) only [va_up_self, pk_un]; exact b1 p hp
  · intro p hp
    rcases hj with ⟨rfl, rfl⟩ | ⟨rfl, rfl⟩
    · simp (disch := omega) only [va_up_self, pk_un]; exact b2 p hp
    · simp only [va_up_self, pk_us, hb _ p hp]
      by_cases e : p = a
      · subst e; simp [upd, b01]
      · rw [pk_un (by omega), b2 p hp]; simp only [e, false_or]
  · intro p hp; simp (disch := omega) only [va_up_ne, pk_un]; exact b3 p hp
  · intro p hp; simp (disch := omega) only [va_up_ne, pk_un]; exact b4 p hp
  · intro p hp; simp (disch := omega) only [va_up_ne, pk_un]; exact b5 p hp
  · intro p hp; simp (disch := omega) only [va_up_ne, pk_un]; exact b6 p hp
  · intro p hp; simp (disch := omega) only [va_up_ne, pk_un]; exact b7 p hp
  · intro p hp; simp (disch := omega) only [va_up_ne, pk_un]; exact b8 p hp
  · intro p hp; simp (disch := omega) only [va_up_ne, pk_un]; exact b9 p hp
  · intro p hp; simp (disch := omega) only [va_up_ne, pk_un]; exact b10 p hp
  · intro p hp; simp (disch := omega) only [va_up_ne, pk_un]; exact b11 p hp
  · simp (disch := omega) only [pk_un]; exact c1
  · simp (disch := omega) only [pk_un]; exact c2
  · intro p hp; simp (disch := omega) only [pk_un]; exact c3 p hp
  · intro p hp; simp (disch := omega) only [pk_un]; exact c4 p hp
  · intro p hp; simp (disch := omega) only [pk_un]; exact c5 p hp
  · intro p hp; simp (disch := omega) only [pk_un]; exact c6 p hp
  · intro p hp; simp (disch := omega) only [pk_un]; exact c7 p hp
  · intro p hp; simp (disch := omega) only [pk_un]; exact c8 p hp
  · intro p hp; simp (disch := omega) only [pk_un]; exact c9 p hp
  · intro p hp; simp (disch := omega) only [va_up_ne]; exact e1 p hp
  · simp (disch := omega) only [va_up_ne]; exact e2
theorem DC_gif {a : Nat} {f' : Nat → Int32} (h : DC X Y D P S) (ha : a ≤ 9) : DC (gifX X f' 0 11 a) Y (upd D.1 2 (nI a), D.2.1, true, D.2.2.2) P S := by
  obtain ⟨⟨a1, a2, a3, a4, a5, a6, a7, a8, a9, a10, a11⟩, ⟨b1, b2, b3, b4, b5, b6, b7, b8, b9, b10, b11⟩, ⟨c1, c2, c3, c4, c5, c6, c7, c8, c9⟩, e1, e2⟩ := h
  refine ⟨⟨a1, a2, ?_, ?_, ?_, ?_, a7, ?_, ?_, ?_, ?_⟩, ⟨?_, ?_, ?_, ?_, ?_, ?_, ?_, ?_, ?_, ?_, ?_⟩, ⟨?_, ?_, ?_, ?_, ?_, ?_, ?_, ?_, ?_⟩, ?_, ?_⟩
  all_goals (try unfold gifX)
  · simp (disch := omega) only [pk_un]; exact a3
  · simp (disch := omega) only [pk_un]; exact a4
  · simp (disch := omega) only [va_up_self, pk_un]; exact a5
  · simp (disch := omega) only [va_up_self, pk_un]; exact a6
  · simp (disch := omega) only [va_up_self, pk_us]
  · simp (disch := omega) only [va_up_self, pk_un]; exact a9
  · simp (disch := omega) only [va_up_ne, va_up_self, pk_us]; rfl
  · simp (disch := omega) only [va_up_ne, va_up_self, pk_un]; exact a11
  · intro p hp; simp (disch := omega) only [va_up_self, pk_un]; exact b1 p hp
  · intro p hp; simp (disch := omega) only [va_up_self, pk_un]; exact b2 p hp
  · intro p hp; simp (disch := omega) only [va_up_ne, pk_un]; exact b3 p hp
  · intro p hp; simp (disch := omega) only [va_up_ne, pk_un]; exact b4 p hp
  · intro p hp; simp (disch := omega) only [va_up_ne, pk_un]; exact b5 p hp
  · intro p hp; simp (disch := omega) only [va_up_ne, pk_un]; exact b6 p hp
  · intro p hp; simp (disch := omega) only [va_up_ne, pk_un]; exact b7 p hp
  · intro p hp; simp (disch := omega) only [va_up_ne, pk_un]; exact b8 p hp
  · intro p hp; simp (disch := omega) only [va_up_ne, pk_un]; exact b9 p hp
  · intro p hp; simp (disch := omega) only [va_up_ne, pk_un]; exact b10 p hp
  · intro p hp; simp (disch := omega) only [va_up_ne, pk_un]; exact b11 p hp
  · exact ⟨a, ha, by simp only [pk_us]⟩
  · simp (disch := omega) only [pk_un]; exact c2
  · intro p hp; simp (disch := omega) only [pk_un]; exact c3 p hp
  · intro p hp; simp (disch := omega) only [pk_un]; exact c4 p hp
  · intro p hp; simp (disch := omega) only [pk_un]; exact c5 p hp
  · intro p hp; simp (disch := omega) only [pk_un]; exact c6 p hp
  · intro p hp; simp (disch := omega) only [pk_un]; exact c7 p hp
  · intro p hp; simp (disch := omega) only [pk_un]; exact c8 p hp
  · intro p hp; simp (disch := omega) only [pk_un]; exact c9 p hp
  · intro p hp; simp (disch := omega) only [va_up_ne]; exact e1 p hp
  · simp (disch := omega) only [va_up_ne]; exact e2
theorem DC_rui {a : Nat} {f' : Nat → Int32} (h : DC X Y D P S) (ha1 : 1 ≤ a) (ha : a ≤ 99) : DC (gifX X f' 1 12 a) Y (upd D.1 3 (nI a), D.2.1, D.2.2.1, true) P S := by
  obtain ⟨⟨a1, a2, a3, a4, a5, a6, a7, a8, a9, a10, a11⟩, ⟨b1, b2, b3, b4, b5, b6, b7, b8, b9, b10, b11⟩, ⟨c1, c2, c3, c4, c5, c6, c7, c8, c9⟩, e1, e2⟩ := h
  refine ⟨⟨a1, a2, ?_, ?_, ?_, ?_, a7, ?_, ?_, ?_, ?_⟩, ⟨?_, ?_, ?_, ?_, ?_, ?_, ?_, ?_, ?_, ?_, ?_⟩, ⟨?_, ?_, ?_, ?_, ?_, ?_, ?_, ?_, ?_⟩, ?_, ?_⟩
  all_goals (try unfold gifX)
  · simp (disch := omega) only [pk_un]; exact a3
  · simp (disch := omega) only [pk_un]; exact a4
  · simp (disch := omega) only [va_up_self, pk_un]; exact a5
  · simp (disch := omega) only [va_up_self, pk_un]; exact a6
  · simp (disch := omega) only [va_up_self, pk_un]; exact a8
  · simp (disch := omega) only [va_up_self, pk_us]
  · simp (disch := omega) only [va_up_ne, va_up_self, pk_un]; exact a10
  · simp (disch := omega) only [va_up_ne, va_up_self, pk_us]; rfl
  · intro p hp; simp (disch := omega) only [va_up_self, pk_un]; exact b1 p hp
  · intro p hp; simp (disch := omega) only [va_up_self, pk_un]; exact b2 p hp
  · intro p hp; simp (disch := omega) only [va_up_ne, pk_un]; exact b3 p hp
  · intro p hp; simp (disch := omega) only [va_up_ne, pk_un]; exact b4 p hp
  · intro p hp; simp (disch := omega) only [va_up_ne, pk_un]; exact b5 p hp
  · intro p hp; simp (disch := omega) only [va_up_ne, pk_un]; exact b6 p hp
  · intro p hp; simp (disch := omega) only [va_up_ne, pk_un]; exact b7 p hp
  · intro p hp; simp (disch := omega) only [va_up_ne, pk_un]; exact b8 p hp
  · intro p hp; simp (disch := omega) only [va_up_ne, pk_un]; exact b9 p hp
  · intro p hp; simp (disch := omega) only [va_up_ne, pk_un]; exact b10 p hp
  · intro p hp; simp (disch := omega) only [va_up_ne, pk_un]; exact b11 p hp
  · simp (disch := omega) only [pk_un]; exact c1
  · exact ⟨a, ha1, ha, by simp only [pk_us]⟩
  · intro p hp; simp (disch := omega) only [pk_un]; exact c3 p hp
  · intro p hp; simp (disch := omega) only [pk_un]; exact c4 p hp
  · intro p hp; simp (disch := omega) only [pk_un]; exact c5 p hp
  · intro p hp; simp (disch := omega) only [pk_un]; exact c6 p hp
  · intro p hp; simp (disch := omega) only [pk_un]; exact c7 p hp
  · intro p hp; simp (disch := omega) only [pk_un]; exact c8 p hp
  · intro p hp; simp (disch := omega) only [pk_un]; exact c9 p hp
  · intro p hp; simp (disch := omega) only [va_up_ne]; exact e1 p hp
  · simp (disch := omega) only [va_up_ne]; exact e2
end TWP
