/-! LIFE: what its methods come to -/
section LIF
variable {G : ai_G} {d n sl : Nat} {M : ai_M} {Q : List Value → Nat → Nat → ai_M → Prop}
/-- a Life at o, of the charter at c: its rows l 0 .. l 7, its numbers l 8 .. l 12 (each at 0) -/
def lf (M : ai_M) (n o c : Nat) (l : Nat → Nat → Int32) : Prop := o + 8 < n ∧ M o = .inr (3, [.ref c, .ref (o + 1), .ref (o + 2), .ref (o + 3), .ref (o + 4), .ref (o + 5), .ref (o + 6), .ref (o + 7), .ref (o + 8), .int (l 8 0), .int (l 9 0), .int (l 10 0), .int (l 11 0), .int (l 12 0)]) ∧ M (o + 1) = .inl (0, 8, .inl (l 0)) ∧ M (o + 2) = .inl (0, 8, .inl (l 1)) ∧ M (o + 3) = .inl (0, 8, .inl (l 2)) ∧ M (o + 4) = .inl (0, 8, .inl (l 3)) ∧ M (o + 5) = .inl (0, 64, .inl (l 4)) ∧ M (o + 6) = .inl (0, 8, .inl (l 5)) ∧ M (o + 7) = .inl (0, 8, .inl (l 6)) ∧ M (o + 8) = .inl (0, 8, .inl (l 7))
theorem ib_nI {k N : Nat} (h : k < N) (hN : N ≤ 1000000) : ai_ib (nI k) N = true := by
  unfold ai_ib
  rw [nI_clamp (by omega)]
  simp
  exact ⟨by have := nI_pos (n := k) (by omega); simpa using this, h⟩
set_option maxHeartbeats 4000000 in
theorem note_eq {o c : Nat} {l : Nat → Nat → Int32} (h : lf M n o c l) {a b : Nat} (ha : a < 8) (hb : b < 8) : aw ET G d 43 0 [some (.ref o), some (.int (nI a)), some (.int (nI b))] [] n sl M Q = Q [.int (l 4 (a * 8 + b))] n sl M := by
  obtain ⟨ho, hM, h1, h2, h3, h4, h5, h6, h7, h8⟩ := h
  have e : nI a * 8 + nI b = nI (a * 8 + b) := by
    rw [show (8 : Int32) = nI 8 from rfl, pk_mul, nI_add]
  have hib := ib_nI (k := a * 8 + b) (N := 64) (by omega) (by omega)
  have hcl : (nI (a * 8 + b)).toNatClampNeg = a * 8 + b := nI_clamp (by omega)
  simp [w43_0, w43_1, w43_4, w43_5, w43_7, w43_8, w43_9, w43_10, w43_11, ow43, rt43, in43, pl3_24, nf3, aw_st, ai_cls, ai_len, ai_p, ai_sw, ai_m, ai_c, aw_go, ai_at, ai_isI, ai_isJ, ai_isA, ai_ld, ai_1i, ai_2i, ai_2l, ai_cn, ai_j, ai_set, ai_set2, ai_nl, ai_rs, ai_this, ai_ar, ai_en, ai_sm, Value.category, hM, h5, show o < n by omega, show o + 5 < n by omega, e, hib, hcl]
/-- a sum of k from place j on, beginning with acc -/
def rsum (f : Nat → Int32) : Nat → Nat → Int32 → Int32
  | _, 0, acc => acc
  | j, k + 1, acc => rsum f (j + 1) k (acc + f j)
theorem le_nI8 {q : Nat} (h : q < 1000) : ((8 : Int32) ≤ nI q) = (8 ≤ q) := by
  rw [show (8 : Int32) = nI 8 from rfl, nI_leI (by omega) (by omega)]
set_option maxHeartbeats 4000000 in
theorem debt_loop {o c : Nat} {l : Nat → Nat → Int32} (h : lf M n o c l) {p : Nat} (hp : p < 8) : ∀ (k q : Nat) (acc : Int32), q + k = 8 → aw ET G (d + 1) 63 4 [some (.ref o), some (.int (nI p)), some (.int acc), some (.int (nI q))] [] n sl M Q = Q [.int (rsum (l 4) (p * 8 + q) k acc)] n sl M := by
  intro k
  induction k with
  | zero =>
    intro q acc hq
    have : q = 8 := by omega
    subst this
    simp [w63_0, w63_1, w63_2, w63_3, w63_4, w63_5, w63_7, w63_10, w63_11, w63_12, w63_13, w63_14, w63_17, w63_18, w63_19, w63_22, w63_25, w63_26, ow63, rt63, in63, pl3_62, ow43, mx43, aw_st, ai_cls, ai_len, ai_p, ai_sw, ai_m, ai_c, aw_go, ai_at, ai_isI, ai_isJ, ai_isA, ai_ld, ai_1i, ai_2i, ai_2l, ai_cn, ai_j, ai_set, ai_set2, ai_nl, ai_rs, ai_this, ai_ar, ai_en, ai_sm, Value.category, rsum, show nI 8 = 8 from rfl]
  | succ k ih =>
    intro q acc hq
    have hc : ¬ (8 : Int32) ≤ nI q := by rw [le_nI8 (by omega)]; omega
    have hn : ∀ Q : List Value → Nat → Nat → ai_M → Prop, aw ET G d 43 0 [some (.ref o), some (.int (nI p)), some (.int (nI q))] [] n sl M Q = Q [.int (l 4 (p * 8 + q))] n sl M := fun Q => note_eq h hp (by omega)
    obtain ⟨ho, hM, -⟩ := h
    rw [w63_4]
    simp [w63_0, w63_1, w63_2, w63_3, w63_5, w63_7, w63_10, w63_11, w63_12, w63_13, w63_14, w63_17, w63_18, w63_19, w63_22, w63_25, w63_26, ow63, rt63, in63, pl3_62, ow43, mx43, aw_st, ai_cls, ai_len, ai_p, ai_sw, ai_m, ai_c, aw_go, ai_at, ai_isI, ai_isJ, ai_isA, ai_ld, ai_1i, ai_2i, ai_2l, ai_cn, ai_j, ai_set, ai_set2, ai_nl, ai_rs, ai_this, ai_ar, ai_en, ai_sm, Value.category, hM, show o < n by omega, hc, hn, nI_1, ih (q + 1) (acc + l 4 (p * 8 + q)) (by omega), rsum, Nat.add_assoc]
theorem debt_eq {o c : Nat} {l : Nat → Nat → Int32} (h : lf M n o c l) {p : Nat} (hp : p < 8) : aw ET G (d + 1) 63 0 [some (.ref o), some (.int (nI p)), none, none] [] n sl M Q = Q [.int (rsum (l 4) (p * 8) 8 0)] n sl M := by
  have := debt_loop (G := G) (d := d) (sl := sl) (Q := Q) h hp 8 0 0 rfl
  simp [w63_0, w63_1, w63_2, w63_3, w63_5, w63_7, w63_10, w63_11, w63_12, w63_13, w63_14, w63_17, w63_18, w63_19, w63_22, w63_25, w63_26, ow63, rt63, in63, pl3_62, ow43, mx43, aw_st, ai_cls, ai_len, ai_p, ai_sw, ai_m, ai_c, aw_go, ai_at, ai_isI, ai_isJ, ai_isA, ai_ld, ai_1i, ai_2i, ai_2l, ai_cn, ai_j, ai_set, ai_set2, ai_nl, ai_rs, ai_this, ai_ar, ai_en, ai_sm, Value.category] at this ⊢
  exact this
end LIF
