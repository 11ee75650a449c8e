/-! LIFE, III: what its methods change -/
section LIH
variable {G : ai_G} {d n sl : Nat} {M : ai_M} {Q : List Value → Nat → Nat → ai_M → Prop}
/-- a row of a Life is another one -/
theorem lf_row {o c : Nat} {l : Nat → Nat → Int32} {M' : ai_M} (h : lf M n o c l) (j : Nat) (f : Nat → Int32) (hj : 1 ≤ j ∧ j ≤ 8) (hM : M' (o + j) = .inl (0, if j = 5 then 64 else 8, .inl f)) (hk : ∀ i, ¬ i = o + j → M' i = M i) : lf M' n o c (vf_upd l j f) := by
  obtain ⟨ho, h0, h1, h2, h3, h4, h5, h6, h7, h8⟩ := h
  have e0 := hk o (by omega)
  have g : ∀ i, ¬ i = j → M' (o + i) = M (o + i) := fun i hi => hk (o + i) (by omega)
  rcases (show j = 1 ∨ j = 2 ∨ j = 3 ∨ j = 4 ∨ j = 5 ∨ j = 6 ∨ j = 7 ∨ j = 8 by omega) with rfl | rfl | rfl | rfl | rfl | rfl | rfl | rfl <;>
    simp [lf, vf_upd, e0, g, h0, h1, h2, h3, h4, h5, h6, h7, h8, ho] <;> simpa using hM
/-- the notes when a comes to owe b x hours -/
def oweF (f : Nat → Int32) (a b : Nat) (x : Int32) : Nat → Int32 :=
  let less : Int32 := if f (b * 8 + a) < x then f (b * 8 + a) else x
  let f1 := upd f (b * 8 + a) (f (b * 8 + a) - less)
  upd f1 (a * 8 + b) (f1 (a * 8 + b) + (x - less))
set_option maxHeartbeats 4000000 in
theorem comeToOwe_wp {o c : Nat} {l : Nat → Nat → Int32} (h : lf M n o c l) {a b : Nat} (ha : a < 8) (hb : b < 8) {x : Int32} (hQ : ∀ M', lf M' n o c (vf_upd l 5 (oweF (l 5) a b x)) → (∀ j, ¬ j = o + 5 → M' j = M j) → Q [] n sl M') : aw ET G (d + 1) 75 0 [some (.ref o), some (.int (nI a)), some (.int (nI b)), some (.int x), none] [] n sl M Q := by
  have hn : ∀ Q : List Value → Nat → Nat → ai_M → Prop, aw ET G d 43 0 [some (.ref o), some (.int (nI b)), some (.int (nI a))] [] n sl M Q = Q [.int (l 5 (b * 8 + a))] n sl M := fun Q => note_eq h hb ha
  have hl := h
  obtain ⟨ho, hM, h1, h2, h3, h4, h5, h6, h7, h8⟩ := h
  have e1 : nI b * 8 + nI a = nI (b * 8 + a) := by rw [show (8 : Int32) = nI 8 from rfl, pk_mul, nI_add]
  have e2 : nI a * 8 + nI b = nI (a * 8 + b) := by rw [show (8 : Int32) = nI 8 from rfl, pk_mul, nI_add]
  have i1 := ib_nI (k := b * 8 + a) (N := 64) (by omega) (by omega)
  have i2 := ib_nI (k := a * 8 + b) (N := 64) (by omega) (by omega)
  have c1 : (nI (b * 8 + a)).toNatClampNeg = b * 8 + a := nI_clamp (by omega)
  have c2 : (nI (a * 8 + b)).toNatClampNeg = a * 8 + b := nI_clamp (by omega)
  simp [w75_0, w75_1, w75_2, w75_3, w75_4, w75_7, w75_10, w75_12, w75_13, w75_16, w75_17, w75_19, w75_20, w75_21, w75_22, w75_23, w75_24, w75_26, w75_27, w75_28, w75_29, w75_32, w75_33, w75_35, w75_36, w75_37, w75_38, w75_39, w75_40, w75_41, w75_43, w75_44, w75_45, w75_46, ow75, rt75, in75, pl3_62, ow43, mx43, pl3_92, pl3_24, nf3, aw_st, ai_cls, ai_len, ai_p, ai_sw, ai_m, ai_c, aw_go, ai_at, ai_isI, ai_isJ, ai_isA, ai_ld, ai_1i, ai_2i, ai_2l, ai_cn, ai_j, ai_set, ai_set2, ai_nl, ai_rs, ai_this, ai_ar, ai_en, ai_sm, Value.category, hk0, hk1, ai_ft, fi0, fi1, fi2, fi3, hM, h5, show o < n by omega, show o + 5 < n by omega, hn, e1, e2, i1, i2, c1, c2, va_up]
  apply hQ
  · apply lf_row hl 5 _ (by omega)
    · simp [va_up, oweF]
    · intro i hi
      simp [va_up, hi]
  · intro j hj
    simp [va_up, hj]
end LIH
