/-! GRIEFS, SAVED: both, II -/
section GRG
variable {G : ai_G} {d n sl : Nat} {M : ai_M} {Q : List Value → Nat → Nat → ai_M → Prop} {Y : mY} {X : mX}
set_option maxHeartbeats 4000000 in
theorem com_loop {x0 y0 : Int64} : ∀ (r i x y : Nat) (z9 z10 : Option Value), i + r = 200 → x < 2 ^ 63 → y < 2 ^ 63 → eucE r x y = true → aw ET G d 176 9 [some (.long x0), none, some (.long y0), none, some (.long (lN x)), none, some (.long (lN y)), none, some (.int (nI i)), z9, z10] [] n sl M Q = Q [.long (lN (eucT r x y))] n sl M := by
  intro r
  induction r with
  | zero =>
    intro i x y z9 z10 hi hx hy he
    simp (disch := omega) [w176_9, w176_11, w176_14, w176_45, w176_47, rt176, aw_st, ai_cls, ai_len, ai_p, ai_sw, ai_m, ai_c, ai_at, ai_isI, ai_isJ, ai_isA, ai_ld, ai_1i, ai_2i, ai_2l, ai_cn, ai_j, ai_set, ai_set2, ai_nl, ai_rs, ai_sm, Value.category, hk0, hk1, lits, litb, litm, litm2, List.getElem?_cons_zero, List.getElem?_cons_succ, or_n0, bit_r, fi0, fi1, fi2, fi3, nI_toInt, nI_add, pk_mul, nI_leI, nI_ltI, nI_eq, pk_sub, ib_nI, nI_clamp, va_up_self, va_up_ne, va_up_up, va_up_comm, pk_us, pk_un, upd_up, updL_up, pk_uLs, pk_uLn, b01_1, b01_0, b01_1s, b01_0s, or_b, eucT, show 200 ≤ i by omega]
  | succ r ih =>
    intro i x y z9 z10 hi hx hy he
    rw [w176_9]
    by_cases h0 : y = 0
    · subst h0
      simp (disch := omega) [w176_1, w176_3, w176_4, w176_6, w176_7, w176_11, w176_14, w176_17, w176_19, w176_20, w176_21, w176_24, w176_26, w176_28, w176_29, w176_31, w176_33, w176_35, w176_37, w176_39, w176_42, w176_45, w176_47, rt176, aw_st, ai_cls, ai_len, ai_p, ai_sw, ai_m, ai_c, ai_at, ai_isI, ai_isJ, ai_isA, ai_ld, ai_1i, ai_2i, ai_2l, ai_cn, ai_j, ai_set, ai_set2, ai_nl, ai_rs, ai_sm, Value.category, hk0, hk1, lits, litb, litm, litm2, List.getElem?_cons_zero, List.getElem?_cons_succ, or_n0, bit_r, fi0, fi1, fi2, fi3, nI_toInt, nI_add, pk_mul, nI_leI, nI_ltI, nI_eq, pk_sub, ib_nI, nI_clamp, va_up_self, va_up_ne, va_up_up, va_up_comm, pk_us, pk_un, upd_up, updL_up, pk_uLs, pk_uLn, b01_1, b01_0, b01_1s, b01_0s, or_b, fin2, litl, ofN, lgc_eq, eucT, show ¬ 200 ≤ i by omega]
    · unfold eucE at he
      rw [if_neg h0] at he
      have hmod : x % y < y := Nat.mod_lt _ (by omega)
      simp (disch := omega) [w176_1, w176_3, w176_4, w176_6, w176_7, w176_11, w176_14, w176_17, w176_19, w176_20, w176_21, w176_24, w176_26, w176_28, w176_29, w176_31, w176_33, w176_35, w176_37, w176_39, w176_42, w176_45, w176_47, rt176, aw_st, ai_cls, ai_len, ai_p, ai_sw, ai_m, ai_c, ai_at, ai_isI, ai_isJ, ai_isA, ai_ld, ai_1i, ai_2i, ai_2l, ai_cn, ai_j, ai_set, ai_set2, ai_nl, ai_rs, ai_sm, Value.category, hk0, hk1, lits, litb, litm, litm2, List.getElem?_cons_zero, List.getElem?_cons_succ, or_n0, bit_r, fi0, fi1, fi2, fi3, nI_toInt, nI_add, pk_mul, nI_leI, nI_ltI, nI_eq, pk_sub, ib_nI, nI_clamp, va_up_self, va_up_ne, va_up_up, va_up_comm, pk_us, pk_un, upd_up, updL_up, pk_uLs, pk_uLn, b01_1, b01_0, b01_1s, b01_0s, or_b, fin2, litl, ofN, lgc_eq, pk_lEQ, pk_lRem, h0, show ¬ 200 ≤ i by omega]
      rw [ih (i + 1) y (x % y) _ _ (by omega) hy (by omega) he]
      simp only [eucT, if_neg h0]
theorem com_eq {x y : Nat} (hx : x < 2 ^ 63) (hy : y < 2 ^ 63) (he : eucE 200 x y = true) : aw ET G d 176 0 [some (.long (lN x)), none, some (.long (lN y)), none, none, none, none, none, none, none, none] [] n sl M Q = Q [.long (lN (eucT 200 x y))] n sl M := by
  have := com_loop (G := G) (d := d) (n := n) (sl := sl) (M := M) (Q := Q) (x0 := lN x) (y0 := lN y) 200 0 x y none none (by omega) hx hy he
  simp (disch := omega) [w176_0, w176_1, w176_3, w176_4, w176_6, w176_7, aw_st, ai_cls, ai_len, ai_p, ai_sw, ai_m, ai_c, ai_at, ai_isI, ai_isJ, ai_isA, ai_ld, ai_1i, ai_2i, ai_2l, ai_cn, ai_j, ai_set, ai_set2, ai_nl, ai_rs, ai_sm, Value.category, hk0, hk1, lits, litb, litm, litm2, List.getElem?_cons_zero, List.getElem?_cons_succ, or_n0, bit_r, fi0, fi1, fi2, fi3, nI_toInt, nI_add, pk_mul, nI_leI, nI_ltI, nI_eq, pk_sub, ib_nI, nI_clamp, va_up_self, va_up_ne, va_up_up, va_up_comm, pk_us, pk_un, upd_up, updL_up, pk_uLs, pk_uLn, b01_1, b01_0, b01_1s, b01_0s, or_b]
  exact Iff.of_eq this
set_option maxHeartbeats 4000000 in
theorem rcom_loop {x0 y0 : Int64} : ∀ (r x y : Nat) (z8 z9 : Option Value), x < 2 ^ 63 → y < 2 ^ 63 → eucE r x y = true → aw ET G d 249 6 [some (.long x0), none, some (.long y0), none, some (.long (lN x)), none, some (.long (lN y)), none, z8, z9] [] n sl M Q = Q [.long (lN (eucT r x y))] n sl M := by
  intro r
  induction r with
  | zero =>
    intro x y z8 z9 hx hy he
    unfold eucE at he
    simp at he
    subst he
    simp (disch := omega) [w249_1, w249_3, w249_4, w249_6, w249_8, w249_9, w249_10, w249_13, w249_15, w249_17, w249_18, w249_20, w249_22, w249_24, w249_26, w249_28, w249_31, w249_33, rt249, aw_st, ai_cls, ai_len, ai_p, ai_sw, ai_m, ai_c, ai_at, ai_isI, ai_isJ, ai_isA, ai_ld, ai_1i, ai_2i, ai_2l, ai_cn, ai_j, ai_set, ai_set2, ai_nl, ai_rs, ai_sm, Value.category, hk0, hk1, lits, litb, litm, litm2, List.getElem?_cons_zero, List.getElem?_cons_succ, or_n0, bit_r, fi0, fi1, fi2, fi3, nI_toInt, nI_add, pk_mul, nI_leI, nI_ltI, nI_eq, pk_sub, ib_nI, nI_clamp, va_up_self, va_up_ne, va_up_up, va_up_comm, pk_us, pk_un, upd_up, updL_up, pk_uLs, pk_uLn, b01_1, b01_0, b01_1s, b01_0s, or_b, fin2, litl, ofN, lgc_eq, eucT]
  | succ r ih =>
    intro x y z8 z9 hx hy he
    rw [w249_6]
    by_cases h0 : y = 0
    · subst h0
      simp (disch := omega) [w249_1, w249_3, w249_4, w249_8, w249_9, w249_10, w249_13, w249_15, w249_17, w249_18, w249_20, w249_22, w249_24, w249_26, w249_28, w249_31, w249_33, rt249, aw_st, ai_cls, ai_len, ai_p, ai_sw, ai_m, ai_c, ai_at, ai_isI, ai_isJ, ai_isA, ai_ld, ai_1i, ai_2i, ai_2l, ai_cn, ai_j, ai_set, ai_set2, ai_nl, ai_rs, ai_sm, Value.category, hk0, hk1, lits, litb, litm, litm2, List.getElem?_cons_zero, List.getElem?_cons_succ, or_n0, bit_r, fi0, fi1, fi2, fi3, nI_toInt, nI_add, pk_mul, nI_leI, nI_ltI, nI_eq, pk_sub, ib_nI, nI_clamp, va_up_self, va_up_ne, va_up_up, va_up_comm, pk_us, pk_un, upd_up, updL_up, pk_uLs, pk_uLn, b01_1, b01_0, b01_1s, b01_0s, or_b, fin2, litl, ofN, lgc_eq, eucT]
    · unfold eucE at he
      rw [if_neg h0] at he
      have hmod : x % y < y := Nat.mod_lt _ (by omega)
      simp (disch := omega) [w249_1, w249_3, w249_4, w249_8, w249_9, w249_10, w249_13, w249_15, w249_17, w249_18, w249_20, w249_22, w249_24, w249_26, w249_28, w249_31, w249_33, rt249, aw_st, ai_cls, ai_len, ai_p, ai_sw, ai_m, ai_c, ai_at, ai_isI, ai_isJ, ai_isA, ai_ld, ai_1i, ai_2i, ai_2l, ai_cn, ai_j, ai_set, ai_set2, ai_nl, ai_rs, ai_sm, Value.category, hk0, hk1, lits, litb, litm, litm2, List.getElem?_cons_zero, List.getElem?_cons_succ, or_n0, bit_r, fi0, fi1, fi2, fi3, nI_toInt, nI_add, pk_mul, nI_leI, nI_ltI, nI_eq, pk_sub, ib_nI, nI_clamp, va_up_self, va_up_ne, va_up_up, va_up_comm, pk_us, pk_un, upd_up, updL_up, pk_uLs, pk_uLn, b01_1, b01_0, b01_1s, b01_0s, or_b, fin2, litl, ofN, lgc_eq, pk_lEQ, pk_lRem, h0]
      rw [ih y (x % y) _ _ hy (by omega) he]
      simp only [eucT, if_neg h0]
theorem rcom_eq {x y : Nat} (hx : x < 2 ^ 63) (hy : y < 2 ^ 63) (he : eucE 200 x y = true) : aw ET G d 249 0 [some (.long (lN x)), none, some (.long (lN y)), none, none, none, none, none, none, none] [] n sl M Q = Q [.long (lN (eucT 200 x y))] n sl M := by
  have := rcom_loop (G := G) (d := d) (n := n) (sl := sl) (M := M) (Q := Q) (x0 := lN x) (y0 := lN y) 200 x y none none hx hy he
  simp (disch := omega) [w249_0, w249_1, w249_3, w249_4, aw_st, ai_cls, ai_len, ai_p, ai_sw, ai_m, ai_c, ai_at, ai_isI, ai_isJ, ai_isA, ai_ld, ai_1i, ai_2i, ai_2l, ai_cn, ai_j, ai_set, ai_set2, ai_nl, ai_rs, ai_sm, Value.category, hk0, hk1, lits, litb, litm, litm2, List.getElem?_cons_zero, List.getElem?_cons_succ, or_n0, bit_r, fi0, fi1, fi2, fi3, nI_toInt, nI_add, pk_mul, nI_leI, nI_ltI, nI_eq, pk_sub, ib_nI, nI_clamp, va_up_self, va_up_ne, va_up_up, va_up_comm, pk_us, pk_un, upd_up, updL_up, pk_uLs, pk_uLn, b01_1, b01_0, b01_1s, b01_0s, or_b]
  exact Iff.of_eq this
/-- numbers of GRIEFS: days, griefs by six, of how many -/
def okG (a k m : Int32) : Bool := inI 1 12 a && (inI 1 6 m && inI 0 m k)
theorem rareG_eq {a k m : Int32} : aw ET G (d + 1) 246 0 [some (.int a), some (.int k), some (.int m)] [] n sl M Q = Q [.int (b01 (okG a k m = true))] n sl M := by
  unfold okG
  cases h1 : inI 1 12 a <;> cases h2 : inI 1 6 m <;> cases h3 : inI 0 m k <;> (have g1 : inI (nI 1) (nI 12) a = _ := h1; have g2 : inI (nI 1) (nI 6) m = _ := h2; have g3 : inI (nI 0) m k = _ := h3; simp (disch := omega) [w246_0, w246_1, w246_2, x246_4, w246_7, w246_10, w246_11, w246_12, x246_14, w246_17, w246_20, w246_21, w246_22, x246_23, w246_26, w246_29, w246_30, w246_33, w246_34, rt246, aw_st, ai_cls, ai_len, ai_p, ai_sw, ai_m, ai_c, ai_at, ai_isI, ai_isJ, ai_isA, ai_ld, ai_1i, ai_2i, ai_2l, ai_cn, ai_j, ai_set, ai_set2, ai_nl, ai_rs, ai_sm, Value.category, hk0, hk1, lits, litb, litm, litm2, List.getElem?_cons_zero, List.getElem?_cons_succ, or_n0, bit_r, fi0, fi1, fi2, fi3, nI_toInt, nI_add, pk_mul, nI_leI, nI_ltI, nI_eq, pk_sub, ib_nI, nI_clamp, va_up_self, va_up_ne, va_up_up, va_up_comm, pk_us, pk_un, upd_up, updL_up, pk_uLs, pk_uLn, b01_1, b01_0, b01_1s, b01_0s, or_b, isIn_eq, g1, g2, g3, b01])
theorem inI_lt {lo hi x : Int32} : inI lo hi x = (decide (¬ x < lo) && decide (¬ hi < x)) := by
  unfold inI
  rw [Bool.eq_iff_iff]
  simp
set_option maxHeartbeats 4000000 in
theorem areG_eq {a k m : Int32} : aw ET G d 113 0 [some (.int a), some (.int k), some (.int m)] [] n sl M Q = Q [.int (b01 (okG a k m = true))] n sl M := by
  unfold okG
  simp only [inI_lt]
  rcases lt_or a (nI 1) with ⟨a1, a2⟩ | ⟨a1, a2⟩
  · simp (disch := omega) [w113_0, w113_1, w113_2, w113_5, w113_6, w113_8, w113_11, w113_12, w113_13, w113_16, w113_17, w113_19, w113_22, w113_23, w113_26, w113_27, w113_28, w113_31, w113_32, w113_35, w113_36, rt113, aw_st, ai_cls, ai_len, ai_p, ai_sw, ai_m, ai_c, ai_at, ai_isI, ai_isJ, ai_isA, ai_ld, ai_1i, ai_2i, ai_2l, ai_cn, ai_j, ai_set, ai_set2, ai_nl, ai_rs, ai_sm, Value.category, hk0, hk1, lits, litb, litm, litm2, List.getElem?_cons_zero, List.getElem?_cons_succ, or_n0, bit_r, fi0, fi1, fi2, fi3, nI_toInt, nI_add, pk_mul, nI_leI, nI_ltI, nI_eq, pk_sub, ib_nI, nI_clamp, va_up_self, va_up_ne, va_up_up, va_up_comm, pk_us, pk_un, upd_up, updL_up, pk_uLs, pk_uLn, b01_1, b01_0, b01_1s, b01_0s, or_b, a1, a2, b01]
  · rcases lt_or (nI 12) a with ⟨b1, b2⟩ | ⟨b1, b2⟩
    · simp (disch := omega) [w113_0, w113_1, w113_2, w113_5, w113_6, w113_8, w113_11, w113_12, w113_13, w113_16, w113_17, w113_19, w113_22, w113_23, w113_26, w113_27, w113_28, w113_31, w113_32, w113_35, w113_36, rt113, aw_st, ai_cls, ai_len, ai_p, ai_sw, ai_m, ai_c, ai_at, ai_isI, ai_isJ, ai_isA, ai_ld, ai_1i, ai_2i, ai_2l, ai_cn, ai_j, ai_set, ai_set2, ai_nl, ai_rs, ai_sm, Value.category, hk0, hk1, lits, litb, litm, litm2, List.getElem?_cons_zero, List.getElem?_cons_succ, or_n0, bit_r, fi0, fi1, fi2, fi3, nI_toInt, nI_add, pk_mul, nI_leI, nI_ltI, nI_eq, pk_sub, ib_nI, nI_clamp, va_up_self, va_up_ne, va_up_up, va_up_comm, pk_us, pk_un, upd_up, updL_up, pk_uLs, pk_uLn, b01_1, b01_0, b01_1s, b01_0s, or_b, a1, a2, b1, b2, b01]
    · rcases lt_or m (nI 1) with ⟨c1, c2⟩ | ⟨c1, c2⟩
      · simp (disch := omega) [w113_0, w113_1, w113_2, w113_5, w113_6, w113_8, w113_11, w113_12, w113_13, w113_16, w113_17, w113_19, w113_22, w113_23, w113_26, w113_27, w113_28, w113_31, w113_32, w113_35, w113_36, rt113, aw_st, ai_cls, ai_len, ai_p, ai_sw, ai_m, ai_c, ai_at, ai_isI, ai_isJ, ai_isA, ai_ld, ai_1i, ai_2i, ai_2l, ai_cn, ai_j, ai_set, ai_set2, ai_nl, ai_rs, ai_sm, Value.category, hk0, hk1, lits, litb, litm, litm2, List.getElem?_cons_zero, List.getElem?_cons_succ, or_n0, bit_r, fi0, fi1, fi2, fi3, nI_toInt, nI_add, pk_mul, nI_leI, nI_ltI, nI_eq, pk_sub, ib_nI, nI_clamp, va_up_self, va_up_ne, va_up_up, va_up_comm, pk_us, pk_un, upd_up, updL_up, pk_uLs, pk_uLn, b01_1, b01_0, b01_1s, b01_0s, or_b, a1, a2, b1, b2, c1, c2, b01]
      · rcases lt_or (nI 6) m with ⟨e1, e2⟩ | ⟨e1, e2⟩
        · simp (disch := omega) [w113_0, w113_1, w113_2, w113_5, w113_6, w113_8, w113_11, w113_12, w113_13, w113_16, w113_17, w113_19, w113_22, w113_23, w113_26, w113_27, w113_28, w113_31, w113_32, w113_35, w113_36, rt113, aw_st, ai_cls, ai_len, ai_p, ai_sw, ai_m, ai_c, ai_at, ai_isI, ai_isJ, ai_isA, ai_ld, ai_1i, ai_2i, ai_2l, ai_cn, ai_j, ai_set, ai_set2, ai_nl, ai_rs, ai_sm, Value.category, hk0, hk1, lits, litb, litm, litm2, List.getElem?_cons_zero, List.getElem?_cons_succ, or_n0, bit_r, fi0, fi1, fi2, fi3, nI_toInt, nI_add, pk_mul, nI_leI, nI_ltI, nI_eq, pk_sub, ib_nI, nI_clamp, va_up_self, va_up_ne, va_up_up, va_up_comm, pk_us, pk_un, upd_up, updL_up, pk_uLs, pk_uLn, b01_1, b01_0, b01_1s, b01_0s, or_b, a1, a2, b1, b2, c1, c2, e1, e2, b01]
        · rcases lt_or k (nI 0) with ⟨f1, f2⟩ | ⟨f1, f2⟩
          · simp (disch := omega) [w113_0, w113_1, w113_2, w113_5, w113_6, w113_8, w113_11, w113_12, w113_13, w113_16, w113_17, w113_19, w113_22, w113_23, w113_26, w113_27, w113_28, w113_31, w113_32, w113_35, w113_36, rt113, aw_st, ai_cls, ai_len, ai_p, ai_sw, ai_m, ai_c, ai_at, ai_isI, ai_isJ, ai_isA, ai_ld, ai_1i, ai_2i, ai_2l, ai_cn, ai_j, ai_set, ai_set2, ai_nl, ai_rs, ai_sm, Value.category, hk0, hk1, lits, litb, litm, litm2, List.getElem?_cons_zero, List.getElem?_cons_succ, or_n0, bit_r, fi0, fi1, fi2, fi3, nI_toInt, nI_add, pk_mul, nI_leI, nI_ltI, nI_eq, pk_sub, ib_nI, nI_clamp, va_up_self, va_up_ne, va_up_up, va_up_comm, pk_us, pk_un, upd_up, updL_up, pk_uLs, pk_uLn, b01_1, b01_0, b01_1s, b01_0s, or_b, a1, a2, b1, b2, c1, c2, e1, e2, f1, f2, b01]
          · rcases lt_or m k with ⟨g1, g2⟩ | ⟨g1, g2⟩ <;> simp (disch := omega) [w113_0, w113_1, w113_2, w113_5, w113_6, w113_8, w113_11, w113_12, w113_13, w113_16, w113_17, w113_19, w113_22, w113_23, w113_26, w113_27, w113_28, w113_31, w113_32, w113_35, w113_36, rt113, aw_st, ai_cls, ai_len, ai_p, ai_sw, ai_m, ai_c, ai_at, ai_isI, ai_isJ, ai_isA, ai_ld, ai_1i, ai_2i, ai_2l, ai_cn, ai_j, ai_set, ai_set2, ai_nl, ai_rs, ai_sm, Value.category, hk0, hk1, lits, litb, litm, litm2, List.getElem?_cons_zero, List.getElem?_cons_succ, or_n0, bit_r, fi0, fi1, fi2, fi3, nI_toInt, nI_add, pk_mul, nI_leI, nI_ltI, nI_eq, pk_sub, ib_nI, nI_clamp, va_up_self, va_up_ne, va_up_up, va_up_comm, pk_us, pk_un, upd_up, updL_up, pk_uLs, pk_uLn, b01_1, b01_0, b01_1s, b01_0s, or_b, a1, a2, b1, b2, c1, c2, e1, e2, f1, f2, g1, g2, b01]
theorem okG_nat {a k m : Int32} (h : okG a k m = true) : ∃ N j q, 1 ≤ N ∧ N ≤ 12 ∧ 1 ≤ q ∧ q ≤ 6 ∧ j ≤ q ∧ a = nI N ∧ k = nI j ∧ m = nI q := by
  unfold okG at h
  simp only [Bool.and_eq_true] at h
  obtain ⟨h1, h2, h3⟩ := h
  obtain ⟨N, n1, n2, rfl⟩ := inI_nat (lo := 1) (hi := 12) (by omega) (by omega) h1
  obtain ⟨q, q1, q2, rfl⟩ := inI_nat (lo := 1) (hi := 6) (by omega) (by omega) h2
  obtain ⟨j, -, j2, rfl⟩ := inI_nat (lo := 0) (hi := q) (by omega) (by omega) h3
  exact ⟨N, j, q, n1, n2, q1, q2, j2, rfl, rfl, rfl⟩
/-- GRIEFS, above or below the line -/
def griV (N j k m w : Nat) : Nat := (if w = 0 then grN N j k m else m ^ N) / eucT 200 (grN N j k m) (m ^ N)
/-- the griefs at which enough is met -/
def savR (N k m t : Nat) : Nat → Nat → Nat → Nat
  | _, 0, _ => N
  | j, r + 1, met => if t * m ^ N ≤ (met + grN N j k m) * 9 then j else savR N k m t (j + 1) r (met + grN N j k m)
def savS (N k m t : Nat) : Nat → Nat → Nat → Bool
  | _, 0, met => decide (met ≤ 2176782336 ∧ t * m ^ N ≤ (met + grN N N k m) * 9 ∧ met + grN N N k m ≤ 2176782336)
  | j, r + 1, met => decide (met ≤ 2176782336) && (decide (t * m ^ N ≤ (met + grN N j k m) * 9) || savS N k m t (j + 1) r (met + grN N j k m))
theorem sav_all : ((List.range 13).all fun n => (List.range 7).all fun m => (List.range 7).all fun k => (List.range 10).all fun t => decide (n = 0) || (decide (m = 0) || (decide (m < k) || savS n k m t 0 n 0))) = true := by decide +kernel
theorem sav_ok {n k m t : Nat} (hn : n ≤ 12) (hm : m ≤ 6) (ht : t ≤ 9) (hn1 : 1 ≤ n) (h1 : 1 ≤ m) (hk : k ≤ m) : savS n k m t 0 n 0 = true := by
  have h := sav_all
  rw [List.all_eq_true] at h
  have h := h n (List.mem_range.mpr (by omega))
  rw [List.all_eq_true] at h
  have h := h m (List.mem_range.mpr (by omega))
  rw [List.all_eq_true] at h
  have h := h k (List.mem_range.mpr (by omega))
  rw [List.all_eq_true] at h
  have h := h t (List.mem_range.mpr (by omega))
  simpa only [Bool.or_eq_true, decide_eq_true_eq, show ¬ n = 0 by omega, show ¬ m = 0 by omega, show ¬ m < k by omega, false_or] using h
end GRG
