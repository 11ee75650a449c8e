/-! LIFE, VI: telling, sums, draws -/
section LIK
variable {G : ai_G} {d n sl : Nat} {M : ai_M} {Q : List Value → Nat → Nat → ai_M → Prop}
/-- a life when a has told b the story s -/
def tellL (l k : Nat → Nat → Int32) (a b s : Nat) : Nat → Nat → Int32 := vf_upd (vf_upd (vf_upd l 7 (upd (l 7) s (l 7 s ||| 1 <<< (nI b &&& 31)))) 6 (upd (l 6) s (l 6 s + 1))) 5 (oweF (l 5) b a (worI k s (l 6 s)))
set_option maxHeartbeats 4000000 in
theorem liveTelling_34 {o c : Nat} {l : Nat → Nat → Int32} (h : lf M n o c l) {a b s : Nat} (ha : a < 8) (hb : b < 8) {v : Int32} (hQ : ∀ M', lf M' n o c (vf_upd l 5 (oweF (l 5) b a v)) → (∀ j, ¬ j = o + 5 → M' j = M j) → Q [.int v] n sl M') : aw ET G (d + 3) 80 34 [some (.ref o), some (.int (nI a)), some (.int (nI b)), some (.int (nI s)), some (.int v)] [.int v, .int (nI a), .int (nI b), .ref o] n sl M Q := by
  have hl := h
  obtain ⟨ho, hM, -⟩ := h
  simp [w80_0, w80_1, w80_2, w80_5, w80_7, w80_8, w80_11, w80_12, w80_13, w80_14, w80_15, w80_16, w80_17, w80_18, w80_19, w80_20, w80_23, w80_24, w80_25, w80_26, w80_27, w80_28, w80_29, w80_30, w80_31, w80_32, w80_34, w80_37, w80_39, ow80, rt80, in80, pl3_113, ow81, mx81, pl3_30, nf3, pl3_27, pl3_105, ow75, mx75, aw_st, ai_cls, ai_len, ai_p, ai_sw, ai_m, ai_c, aw_go, ai_at, ai_isI, ai_isJ, ai_isA, ai_ld, ai_1i, ai_2i, ai_2l, ai_cn, ai_j, ai_set, ai_set2, ai_nl, ai_rs, ai_this, ai_ar, ai_en, ai_sm, Value.category, hk0, hk1, ai_ft, fi0, fi1, fi2, fi3, hM, show o < n by omega]
  apply comeToOwe_wp hl hb ha
  intro M' h1 h2
  simp [w80_0, w80_1, w80_2, w80_5, w80_7, w80_8, w80_11, w80_12, w80_13, w80_14, w80_15, w80_16, w80_17, w80_18, w80_19, w80_20, w80_23, w80_24, w80_25, w80_26, w80_27, w80_28, w80_29, w80_30, w80_31, w80_32, w80_34, w80_37, w80_39, ow80, rt80, in80, pl3_113, ow81, mx81, pl3_30, nf3, pl3_27, pl3_105, ow75, mx75, aw_st, ai_cls, ai_len, ai_p, ai_sw, ai_m, ai_c, aw_go, ai_at, ai_isI, ai_isJ, ai_isA, ai_ld, ai_1i, ai_2i, ai_2l, ai_cn, ai_j, ai_set, ai_set2, ai_nl, ai_rs, ai_this, ai_ar, ai_en, ai_sm, Value.category, hk0, hk1, ai_ft, fi0, fi1, fi2, fi3]
  exact hQ M' h1 h2
set_option maxHeartbeats 4000000 in
theorem liveTelling_wp {o c : Nat} {l k : Nat → Nat → Int32} {nm : Nat → Nat → Int64} (h : lf M n o c l) (hc : ch M n c k nm) {a b s : Nat} (ha : a < 8) (hb : b < 8) (hs : s < 8) (hQ : ∀ M', lf M' n o c (tellL l k a b s) → (∀ j, j < o ∨ o + 8 < j → M' j = M j) → Q [.int (worI k s (l 6 s))] n sl M') : aw ET G (d + 3) 80 0 [some (.ref o), some (.int (nI a)), some (.int (nI b)), some (.int (nI s)), none] [] n sl M Q := by
  have hf : ∀ Q : List Value → Nat → Nat → ai_M → Prop, aw ET G (d + 2) 81 0 [some (.ref o), some (.int (nI s))] [] n sl M Q = Q [.int (worI k s (l 6 s))] n sl M := fun Q => worthNow_eq h hc hs
  have hl := h
  obtain ⟨ho, hM, h1, h2, h3, h4, h5, h6, h7, h8⟩ := h
  have hs1 := ib_nI (k := s) (N := 8) hs (by omega)
  have hs2 : (nI s).toNatClampNeg = s := nI_clamp (by omega)
  simp [w80_0, w80_1, w80_2, w80_5, w80_7, w80_8, w80_11, w80_12, w80_13, w80_14, w80_15, w80_16, w80_17, w80_18, w80_19, w80_20, w80_23, w80_24, w80_25, w80_26, w80_27, w80_28, w80_29, w80_30, w80_31, w80_32, w80_37, w80_39, ow80, rt80, in80, pl3_113, ow81, mx81, pl3_30, nf3, pl3_27, pl3_105, ow75, mx75, aw_st, ai_cls, ai_len, ai_p, ai_sw, ai_m, ai_c, aw_go, ai_at, ai_isI, ai_isJ, ai_isA, ai_ld, ai_1i, ai_2i, ai_2l, ai_cn, ai_j, ai_set, ai_set2, ai_nl, ai_rs, ai_this, ai_ar, ai_en, ai_sm, Value.category, hk0, hk1, ai_ft, fi0, fi1, fi2, fi3, hM, h6, h7, show o < n by omega, show o + 6 < n by omega, show o + 7 < n by omega, hs1, hs2, hf, va_up]
  apply liveTelling_34 (l := vf_upd (vf_upd l 7 (upd (l 7) s (l 7 s ||| 1 <<< (nI b &&& 31)))) 6 (upd (l 6) s (l 6 s + 1))) (c := c) _ ha hb
  · intro M' g1 g2
    apply hQ M'
    · simpa [tellL, vf_upd] using g1
    · intro j hj
      rw [g2 j (by omega)]
      simp [va_up, show ¬ j = o + 6 by omega, show ¬ j = o + 7 by omega]
  · simp [lf, va_up, vf_upd, hM, h1, h2, h3, h4, h5, h6, h7, h8, ho]
set_option maxHeartbeats 4000000 in
theorem canGo_eq {o c : Nat} {l : Nat → Nat → Int32} (h : lf M n o c l) {x : Int32} : aw ET G d 84 0 [some (.ref o), some (.int x)] [] n sl M Q = Q [.int (b01 (¬ 9999 < l 10 0 + x))] n sl M := by
  obtain ⟨ho, hM, -⟩ := h
  simp [w84_0, w84_1, w84_4, w84_5, w84_6, w84_9, w84_12, w84_13, w84_16, w84_17, ow84, rt84, in84, pl3_40, nf3, aw_st, ai_cls, ai_len, ai_p, ai_sw, ai_m, ai_c, aw_go, ai_at, ai_isI, ai_isJ, ai_isA, ai_ld, ai_1i, ai_2i, ai_2l, ai_cn, ai_j, ai_set, ai_set2, ai_nl, ai_rs, ai_this, ai_ar, ai_en, ai_sm, Value.category, hk0, hk1, ai_ft, fi0, fi1, fi2, fi3, hM, show o < n by omega]
  rcases lt_or 9999 (l 10 0 + x) with ⟨g1, g2⟩ | ⟨g1, g2⟩ <;> simp [g1, g2, b01]
set_option maxHeartbeats 4000000 in
theorem turned_eq {x : Int32} : aw ET G d 137 0 [some (.int x)] [] n sl M Q = Q [.int (x * 1103515245 + 12345)] n sl M := by
  simp [w137_0, w137_1, w137_3, w137_4, w137_7, w137_8, ow137, rt137, in137, pl3_153, aw_st, ai_cls, ai_len, ai_p, ai_sw, ai_m, ai_c, aw_go, ai_at, ai_isI, ai_isJ, ai_isA, ai_ld, ai_1i, ai_2i, ai_2l, ai_cn, ai_j, ai_set, ai_set2, ai_nl, ai_rs, ai_this, ai_ar, ai_en, ai_sm, Value.category, hk0, hk1, ai_ft, fi0, fi1, fi2, fi3]
/-- a draw of m -/
def drawI (x m : Int32) : Int32 := if 0 < m then (x.toUInt32 >>> (Int32.toUInt32 8 &&& Int32.toUInt32 31)).toInt32 - (x.toUInt32 >>> (Int32.toUInt32 8 &&& Int32.toUInt32 31)).toInt32 / m * m else 0
set_option maxHeartbeats 4000000 in
theorem draw_eq {x m : Int32} : aw ET G d 138 0 [some (.int x), some (.int m)] [] n sl M Q = Q [.int (drawI x m)] n sl M := by
  have hm : 0 < m → ¬ m = 0 := by
    intro h e
    subst e
    exact absurd h (by decide)
  simp only [drawI]
  rcases lt_or 0 m with ⟨g1, g2⟩ | ⟨g1, g2⟩
  · simp [w138_0, w138_1, w138_4, w138_5, w138_7, w138_8, w138_9, w138_10, w138_13, w138_14, ow138, rt138, in138, aw_st, ai_cls, ai_len, ai_p, ai_sw, ai_m, ai_c, aw_go, ai_at, ai_isI, ai_isJ, ai_isA, ai_ld, ai_1i, ai_2i, ai_2l, ai_cn, ai_j, ai_set, ai_set2, ai_nl, ai_rs, ai_this, ai_ar, ai_en, ai_sm, Value.category, hk0, hk1, ai_ft, fi0, fi1, fi2, fi3, g1, g2, hm g1]
  · simp [w138_0, w138_1, w138_4, w138_5, w138_7, w138_8, w138_9, w138_10, w138_13, w138_14, ow138, rt138, in138, aw_st, ai_cls, ai_len, ai_p, ai_sw, ai_m, ai_c, aw_go, ai_at, ai_isI, ai_isJ, ai_isA, ai_ld, ai_1i, ai_2i, ai_2l, ai_cn, ai_j, ai_set, ai_set2, ai_nl, ai_rs, ai_this, ai_ar, ai_en, ai_sm, Value.category, hk0, hk1, ai_ft, fi0, fi1, fi2, fi3, g1, g2]
set_option maxHeartbeats 4000000 in
theorem allHeard_loop {o c : Nat} {l : Nat → Nat → Int32} (h : lf M n o c l) : ∀ (k q : Nat) (acc : Int32), q + k = 8 → aw ET G d 61 4 [some (.ref o), some (.int acc), some (.int (nI q))] [] n sl M Q = Q [.int (rsum (l 3) q k acc)] n sl M := by
  intro k
  induction k with
  | zero =>
    intro q acc hq
    have : q = 8 := by omega
    subst this
    simp [w61_0, w61_1, w61_2, w61_3, w61_4, w61_5, w61_7, w61_10, w61_11, w61_12, w61_15, w61_16, w61_17, w61_18, w61_19, w61_22, w61_25, w61_26, ow61, rt61, in61, pl3_18, nf3, aw_st, ai_cls, ai_len, ai_p, ai_sw, ai_m, ai_c, aw_go, ai_at, ai_isI, ai_isJ, ai_isA, ai_ld, ai_1i, ai_2i, ai_2l, ai_cn, ai_j, ai_set, ai_set2, ai_nl, ai_rs, ai_this, ai_ar, ai_en, ai_sm, Value.category, hk0, hk1, ai_ft, fi0, fi1, fi2, fi3, rsum, show nI 8 = 8 from rfl]
  | succ k ih =>
    intro q acc hq
    have hc : ¬ (8 : Int32) ≤ nI q := by rw [le_nI8 (by omega)]; omega
    have hq1 := ib_nI (k := q) (N := 8) (by omega) (by omega)
    have hq2 : (nI q).toNatClampNeg = q := nI_clamp (by omega)
    obtain ⟨ho, hM, h1, h2, h3, -⟩ := h
    rw [w61_4]
    simp [w61_0, w61_1, w61_2, w61_3, w61_5, w61_7, w61_10, w61_11, w61_12, w61_15, w61_16, w61_17, w61_18, w61_19, w61_22, w61_25, w61_26, ow61, rt61, in61, pl3_18, nf3, aw_st, ai_cls, ai_len, ai_p, ai_sw, ai_m, ai_c, aw_go, ai_at, ai_isI, ai_isJ, ai_isA, ai_ld, ai_1i, ai_2i, ai_2l, ai_cn, ai_j, ai_set, ai_set2, ai_nl, ai_rs, ai_this, ai_ar, ai_en, ai_sm, Value.category, hk0, hk1, ai_ft, fi0, fi1, fi2, fi3, hM, h3, show o < n by omega, show o + 3 < n by omega, hc, hq1, hq2, nI_1, ih (q + 1) (acc + l 3 q) (by omega), rsum]
theorem allHeard_eq {o c : Nat} {l : Nat → Nat → Int32} (h : lf M n o c l) : aw ET G d 61 0 [some (.ref o), none, none] [] n sl M Q = Q [.int (rsum (l 3) 0 8 0)] n sl M := by
  have := allHeard_loop (G := G) (d := d) (sl := sl) (Q := Q) h 8 0 0 rfl
  simp [w61_0, w61_1, w61_2, w61_3, w61_5, w61_7, w61_10, w61_11, w61_12, w61_15, w61_16, w61_17, w61_18, w61_19, w61_22, w61_25, w61_26, ow61, rt61, in61, pl3_18, nf3, aw_st, ai_cls, ai_len, ai_p, ai_sw, ai_m, ai_c, aw_go, ai_at, ai_isI, ai_isJ, ai_isA, ai_ld, ai_1i, ai_2i, ai_2l, ai_cn, ai_j, ai_set, ai_set2, ai_nl, ai_rs, ai_this, ai_ar, ai_en, ai_sm, Value.category, hk0, hk1, ai_ft, fi0, fi1, fi2, fi3] at this ⊢
  exact this
set_option maxHeartbeats 4000000 in
theorem allNeeds_loop {o c : Nat} {l : Nat → Nat → Int32} (h : lf M n o c l) : ∀ (k q : Nat) (acc : Int32), q + k = 8 → aw ET G d 65 4 [some (.ref o), some (.int acc), some (.int (nI q))] [] n sl M Q = Q [.int (rsum (l 1) q k acc)] n sl M := by
  intro k
  induction k with
  | zero =>
    intro q acc hq
    have : q = 8 := by omega
    subst this
    simp [w65_0, w65_1, w65_2, w65_3, w65_4, w65_5, w65_7, w65_10, w65_11, w65_12, w65_15, w65_16, w65_17, w65_18, w65_19, w65_22, w65_25, w65_26, ow65, rt65, in65, pl3_9, nf3, aw_st, ai_cls, ai_len, ai_p, ai_sw, ai_m, ai_c, aw_go, ai_at, ai_isI, ai_isJ, ai_isA, ai_ld, ai_1i, ai_2i, ai_2l, ai_cn, ai_j, ai_set, ai_set2, ai_nl, ai_rs, ai_this, ai_ar, ai_en, ai_sm, Value.category, hk0, hk1, ai_ft, fi0, fi1, fi2, fi3, rsum, show nI 8 = 8 from rfl]
  | succ k ih =>
    intro q acc hq
    have hc : ¬ (8 : Int32) ≤ nI q := by rw [le_nI8 (by omega)]; omega
    have hq1 := ib_nI (k := q) (N := 8) (by omega) (by omega)
    have hq2 : (nI q).toNatClampNeg = q := nI_clamp (by omega)
    obtain ⟨ho, hM, h1, -⟩ := h
    rw [w65_4]
    simp [w65_0, w65_1, w65_2, w65_3, w65_5, w65_7, w65_10, w65_11, w65_12, w65_15, w65_16, w65_17, w65_18, w65_19, w65_22, w65_25, w65_26, ow65, rt65, in65, pl3_9, nf3, aw_st, ai_cls, ai_len, ai_p, ai_sw, ai_m, ai_c, aw_go, ai_at, ai_isI, ai_isJ, ai_isA, ai_ld, ai_1i, ai_2i, ai_2l, ai_cn, ai_j, ai_set, ai_set2, ai_nl, ai_rs, ai_this, ai_ar, ai_en, ai_sm, Value.category, hk0, hk1, ai_ft, fi0, fi1, fi2, fi3, hM, h1, show o < n by omega, show o + 1 < n by omega, hc, hq1, hq2, nI_1, ih (q + 1) (acc + l 1 q) (by omega), rsum]
theorem allNeeds_eq {o c : Nat} {l : Nat → Nat → Int32} (h : lf M n o c l) : aw ET G d 65 0 [some (.ref o), none, none] [] n sl M Q = Q [.int (rsum (l 1) 0 8 0)] n sl M := by
  have := allNeeds_loop (G := G) (d := d) (sl := sl) (Q := Q) h 8 0 0 rfl
  simp [w65_0, w65_1, w65_2, w65_3, w65_5, w65_7, w65_10, w65_11, w65_12, w65_15, w65_16, w65_17, w65_18, w65_19, w65_22, w65_25, w65_26, ow65, rt65, in65, pl3_9, nf3, aw_st, ai_cls, ai_len, ai_p, ai_sw, ai_m, ai_c, aw_go, ai_at, ai_isI, ai_isJ, ai_isA, ai_ld, ai_1i, ai_2i, ai_2l, ai_cn, ai_j, ai_set, ai_set2, ai_nl, ai_rs, ai_this, ai_ar, ai_en, ai_sm, Value.category, hk0, hk1, ai_ft, fi0, fi1, fi2, fi3] at this ⊢
  exact this
/-- a sum of debts -/
def dsum (f : Nat → Int32) : Nat → Nat → Int32 → Int32
  | _, 0, acc => acc
  | p, k + 1, acc => dsum f (p + 1) k (acc + rsum f (p * 8) 8 0)
set_option maxHeartbeats 4000000 in
theorem allOwed_loop {o c : Nat} {l : Nat → Nat → Int32} (h : lf M n o c l) : ∀ (k q : Nat) (acc : Int32), q + k = 8 → aw ET G (d + 2) 62 4 [some (.ref o), some (.int acc), some (.int (nI q))] [] n sl M Q = Q [.int (dsum (l 5) q k acc)] n sl M := by
  intro k
  induction k with
  | zero =>
    intro q acc hq
    have : q = 8 := by omega
    subst this
    simp [w62_0, w62_1, w62_2, w62_3, w62_4, w62_5, w62_7, w62_10, w62_11, w62_12, w62_13, w62_16, w62_17, w62_18, w62_21, w62_24, w62_25, ow62, rt62, in62, pl3_66, ow63, mx63, aw_st, ai_cls, ai_len, ai_p, ai_sw, ai_m, ai_c, aw_go, ai_at, ai_isI, ai_isJ, ai_isA, ai_ld, ai_1i, ai_2i, ai_2l, ai_cn, ai_j, ai_set, ai_set2, ai_nl, ai_rs, ai_this, ai_ar, ai_en, ai_sm, Value.category, hk0, hk1, ai_ft, fi0, fi1, fi2, fi3, dsum, show nI 8 = 8 from rfl]
  | succ k ih =>
    intro q acc hq
    have hc : ¬ (8 : Int32) ≤ nI q := by rw [le_nI8 (by omega)]; omega
    have hf : ∀ Q : List Value → Nat → Nat → ai_M → Prop, aw ET G (d + 1) 63 0 [some (.ref o), some (.int (nI q)), none, none] [] n sl M Q = Q [.int (rsum (l 5) (q * 8) 8 0)] n sl M := fun Q => debt_eq h (by omega)
    obtain ⟨ho, hM, -⟩ := h
    rw [w62_4]
    simp [w62_0, w62_1, w62_2, w62_3, w62_5, w62_7, w62_10, w62_11, w62_12, w62_13, w62_16, w62_17, w62_18, w62_21, w62_24, w62_25, ow62, rt62, in62, pl3_66, ow63, mx63, aw_st, ai_cls, ai_len, ai_p, ai_sw, ai_m, ai_c, aw_go, ai_at, ai_isI, ai_isJ, ai_isA, ai_ld, ai_1i, ai_2i, ai_2l, ai_cn, ai_j, ai_set, ai_set2, ai_nl, ai_rs, ai_this, ai_ar, ai_en, ai_sm, Value.category, hk0, hk1, ai_ft, fi0, fi1, fi2, fi3, hM, show o < n by omega, hc, hf, nI_1, ih (q + 1) (acc + rsum (l 5) (q * 8) 8 0) (by omega), dsum]
theorem allOwed_eq {o c : Nat} {l : Nat → Nat → Int32} (h : lf M n o c l) : aw ET G (d + 2) 62 0 [some (.ref o), none, none] [] n sl M Q = Q [.int (dsum (l 5) 0 8 0)] n sl M := by
  have := allOwed_loop (G := G) (d := d) (sl := sl) (Q := Q) h 8 0 0 rfl
  simp [w62_0, w62_1, w62_2, w62_3, w62_5, w62_7, w62_10, w62_11, w62_12, w62_13, w62_16, w62_17, w62_18, w62_21, w62_24, w62_25, ow62, rt62, in62, pl3_66, ow63, mx63, aw_st, ai_cls, ai_len, ai_p, ai_sw, ai_m, ai_c, aw_go, ai_at, ai_isI, ai_isJ, ai_isA, ai_ld, ai_1i, ai_2i, ai_2l, ai_cn, ai_j, ai_set, ai_set2, ai_nl, ai_rs, ai_this, ai_ar, ai_en, ai_sm, Value.category, hk0, hk1, ai_ft, fi0, fi1, fi2, fi3] at this ⊢
  exact this
end LIK
