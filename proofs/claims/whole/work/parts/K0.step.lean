/-! CLASS AND REFERENCE: TALKED -/
section STJ
variable {G : ai_G} {sl n P S B T B' T' : Nat} {X X' : mX} {Y Y' : mY} {l l' k k' : Nat → Nat → Int32} {s s' : Nat → Int32}
theorem s_talked (hG : G.1 = false) (h : WW n X Y) : PO G sl n 121 256 [some (.ref 0), none, none] [some (.ref 199), none, none, none, none, none] X Y := by
  obtain ⟨P, S, nm, hk, hc, hl, hi, hnm, hs⟩ := h.now
  obtain ⟨h1, h2, h3, h4, h5, h6, h7, -⟩ := id h
  obtain ⟨sz, t, hsz, e1, e2, t1, t2⟩ := h1
  have hP := hk.1
  unfold PO
  by_cases q : 1 ≤ P ∧ P ≤ 6 ∧ sz = P
  · obtain ⟨q1, q2, q3⟩ := q
    subst q3
    refine ttalked_ok (d := 53) hG hk.2.2.1 e1 (by omega) q2 t1 (fun Z b hb hg hf => ?_)
    refine ⟨rfl, rfl, _, rfl, ⟨_, _, rfl⟩, ?_⟩
    have ez : ∀ j, ¬ j = 0 → ¬ (42 ≤ j ∧ j ≤ 45) → Z j = X j := fun j a c => by
      rw [hg j c]
      unfold t15
      rw [va_up_ne _ _ a]
    have z0 : Z 0 = upd (X 0) 15 (nI 0) := by
      rw [hg 0 (by omega)]
      unfold t15
      rw [va_up_self]
    refine rtalked_ok (d := 57) (P := sz) (by omega) q2 (by rw [ez 201 (by omega) (by omega)]; exact hk.2.2.2.2.1) (by rw [ez 199 (by omega) (by omega)]; exact e2) (t := t) (by rw [ez 200 (by omega) (by omega)]; exact t2) (fun V b' hb' hr hs2 => ?_)
    have hS : s3T sz b' = s3T sz b := s3T_cg (by omega) (fun q hq => by rw [hb' q hq, hb q hq])
    rw [hS] at hs2 ⊢
    refine ⟨rfl, rfl, rfl, _, _, rfl, ?_⟩
    obtain ⟨r1, r2, r3, r4⟩ := hr
    obtain ⟨u1, u2, u3, u4⟩ := hf
    obtain ⟨w1, w2⟩ := hs2
    have ev : ∀ j, ¬ j = 0 → ¬ (42 ≤ j ∧ j ≤ 45) → ¬ j = 199 → ¬ (216 ≤ j ∧ j ≤ 223) → V j = X j := fun j a b c d => by rw [r1 j c d, ez j a b]
    have f199 : ∀ j, ¬ j = 0 → ¬ (2 ≤ j ∧ j ≤ 5) → ¬ (44 ≤ j ∧ j ≤ 46) → V 199 j = X 199 j := fun j a b c => by rw [r2 j a b c, ez 199 (by omega) (by omega)]
    have v0 : V 0 = upd (X 0) 15 (nI 0) := by rw [r1 0 (by omega) (by omega), z0]
    have v4 : ∀ j, 42 ≤ j → j ≤ 45 → V j = Z j := fun j a b => r1 j (by omega) (by omega)
    refine WW_sml h (fun k hk => ?_) (fun j a b => ?_) (fun j a => ?_) ?_ ?_ ?_ ?_ ?_
    · have := dk_ne hk
      exact ev k (by omega) (by omega) (by omega) (by omega)
    · rw [v0, pk_un b]
    · exact f199 j (by omega) (by omega) (by omega)
    · rw [v0, pk_us, r4, ev 1 (by omega) (by omega) (by omega) (by omega), ev 200 (by omega) (by omega) (by omega) (by omega)]
      exact ⟨0, t, by omega, rfl, rfl, t1, t2⟩
    · rw [v0, pk_un (by omega), f199 24 (by omega) (by omega) (by omega), ev 46 (by omega) (by omega) (by omega) (by omega), ev 207 (by omega) (by omega) (by omega) (by omega)]
      exact h4
    · rw [ev 35 (by omega) (by omega) (by omega) (by omega), f199 34 (by omega) (by omega) (by omega), ev 37 (by omega) (by omega) (by omega) (by omega), ev 212 (by omega) (by omega) (by omega) (by omega)]
      exact h5
    · rw [ev 38 (by omega) (by omega) (by omega) (by omega), f199 38 (by omega) (by omega) (by omega), ev 39 (by omega) (by omega) (by omega) (by omega), ev 40 (by omega) (by omega) (by omega) (by omega), ev 213 (by omega) (by omega) (by omega) (by omega), ev 214 (by omega) (by omega) (by omega) (by omega)]
      exact h6
    · rw [v4 42 (by omega) (by omega), v4 45 (by omega) (by omega)]
      by_cases c : (s3T sz b).1 = 0
      · obtain ⟨x1, x2, x3⟩ := u3 c
        obtain ⟨y1, y2, y3, y4⟩ := w1 c
        rw [x1, x2, x3, y1, y2, y3, y4, ez 199 (by omega) (by omega), ez 221 (by omega) (by omega), ez 222 (by omega) (by omega), ez 223 (by omega) (by omega)]
        exact h7
      · obtain ⟨x0, x1, x2, x3⟩ := u4 c
        obtain ⟨y0, y1, y2⟩ := w2 c
        exact Or.inr ⟨sz, (s3T sz b).2.1, fun i => tcd (s3T sz b) i, x0, x1, fun _ => ⟨x2, by omega, q2⟩, x3, y1, y2⟩
  · rw [ttalked_bad (d := 53) hk.2.2.1 e1 hP hsz q]
    refine ⟨rfl, rfl, _, rfl, ⟨_, _, rfl⟩, ?_⟩
    generalize hZ : t15 X = Z
    have ez : ∀ j, ¬ j = 0 → Z j = X j := fun j a => by
      rw [← hZ]
      unfold t15
      rw [va_up_ne _ _ a]
    have z0 : Z 0 = upd (X 0) 15 (nI 0) := by
      rw [← hZ]
      unfold t15
      rw [va_up_self]
    rw [rtalked_bad (d := 57) (P := P) (n := sz) hP hsz (by rw [ez 201 (by omega)]; exact hk.2.2.2.2.1) (by rw [ez 199 (by omega)]; exact e2) q]
    refine ⟨rfl, rfl, rfl, _, _, rfl, ?_⟩
    generalize hV : va_up Z 199 (upd (upd (upd (upd (upd (Z 199) 0 (nI 0)) 3 (nI sz)) 2 (nI 0)) 4 (nI 0)) 5 (nI 940)) = V
    have ev : ∀ j, ¬ j = 0 → ¬ j = 199 → V j = X j := fun j a b => by rw [← hV, va_up_ne _ _ b, ez j a]
    have v199 : V 199 = upd (upd (upd (upd (upd (X 199) 0 (nI 0)) 3 (nI sz)) 2 (nI 0)) 4 (nI 0)) 5 (nI 940) := by rw [← hV, va_up_self, ez 199 (by omega)]
    have f199 : ∀ j, 6 ≤ j → V 199 j = X 199 j := fun j a => by rw [v199, pk_un (by omega), pk_un (by omega), pk_un (by omega), pk_un (by omega), pk_un (by omega)]
    have v0 : V 0 = upd (X 0) 15 (nI 0) := by rw [← hV, va_up_ne _ _ (by omega), z0]
    refine WW_sml h (fun k hk => ?_) (fun j a b => ?_) (fun j a => ?_) ?_ ?_ ?_ ?_ ?_
    · have := dk_ne hk
      exact ev k (by omega) (by omega)
    · rw [v0, pk_un b]
    · exact f199 j (by omega)
    · rw [v0, pk_us, v199, pk_un (by omega), pk_un (by omega), pk_us, ev 1 (by omega) (by omega), ev 200 (by omega) (by omega)]
      exact ⟨0, t, by omega, rfl, rfl, t1, t2⟩
    · rw [v0, pk_un (by omega), f199 24 (by omega), ev 46 (by omega) (by omega), ev 207 (by omega) (by omega)]
      exact h4
    · rw [ev 35 (by omega) (by omega), f199 34 (by omega), ev 37 (by omega) (by omega), ev 212 (by omega) (by omega)]
      exact h5
    · rw [ev 38 (by omega) (by omega), f199 38 (by omega), ev 39 (by omega) (by omega), ev 40 (by omega) (by omega), ev 213 (by omega) (by omega), ev 214 (by omega) (by omega)]
      exact h6
    · rw [ev 42 (by omega) (by omega), f199 44 (by omega), ev 45 (by omega) (by omega), ev 221 (by omega) (by omega), ev 222 (by omega) (by omega), ev 223 (by omega) (by omega)]
      exact h7
end STJ
