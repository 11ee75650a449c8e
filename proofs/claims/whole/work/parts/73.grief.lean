/-! GRIEFS, SAVED: both -/
section GRF
variable {G : ai_G} {d n sl : Nat} {M : ai_M} {Q : List Value → Nat → Nat → ai_M → Prop} {Y : mY} {X : mX}
theorem ofN (a : Nat) : Int64.ofNat a = lN a := rfl
theorem litl : (0 : Int64) = lN 0 ∧ (1 : Int64) = lN 1 ∧ (9 : Int64) = lN 9 := ⟨rfl, rfl, rfl⟩
theorem fin2 : ((0 : Fin 2) : Nat) = 0 ∧ ((1 : Fin 2) : Nat) = 1 := ⟨rfl, rfl⟩
theorem lgc_eq (x y : Int64) : (lg_cmp x y = nI 0) = (x = y) := by
  apply propext
  have h1 := lg_cmp_ge x y
  have h2 := lg_cmp_le x y
  constructor
  · intro h
    rw [h] at h1 h2
    exact Int64.le_antisymm (h2.mp (by decide)) (h1.mp (by decide))
  · intro h
    subst h
    unfold lg_cmp
    rw [if_neg (by intro q; exact absurd q (Int64.not_lt.mpr (Int64.le_refl x))), if_pos rfl]
    rfl
theorem lgc_lt (x y : Int64) : (lg_cmp x y < nI 0) = (x < y) := by
  apply propext
  have h1 := lg_cmp_ge x y
  rw [show nI 0 = (0 : Int32) from rfl, ← Int32.not_le, h1, Int64.not_le]
set_option maxHeartbeats 4000000 in
theorem pow_loop_114 {b e : Nat} (hb : b ≤ 1000) (he : e ≤ 1000) : ∀ (r i v : Nat), i + r = e → aw ET G d 114 5 [some (.int (nI b)), some (.int (nI e)), some (.long (lN v)), none, some (.int (nI i))] [] n sl M Q = Q [.long (lN (v * b ^ r))] n sl M := by
  intro r
  induction r with
  | zero =>
    intro i v hi
    simp (disch := omega) [w114_0, w114_1, w114_2, w114_3, w114_5, w114_7, w114_8, w114_11, w114_12, w114_13, w114_14, w114_15, w114_16, w114_19, w114_22, w114_23, rt114, aw_st, ai_cls, ai_len, ai_p, ai_sw, ai_m, ai_c, ai_at, ai_isI, ai_isJ, ai_isA, ai_ld, ai_1i, ai_2i, ai_2l, ai_cn, ai_j, ai_set, ai_set2, ai_nl, ai_rs, ai_sm, Value.category, hk0, hk1, lits, litb, litm, litm2, List.getElem?_cons_zero, List.getElem?_cons_succ, or_n0, bit_r, fi0, fi1, fi2, fi3, nI_toInt, nI_add, pk_mul, nI_leI, nI_ltI, nI_eq, pk_sub, ib_nI, nI_clamp, va_up_self, va_up_ne, va_up_up, va_up_comm, pk_us, pk_un, upd_up, updL_up, pk_uLs, pk_uLn, b01_1, b01_0, b01_1s, b01_0s, or_b, show e ≤ i by omega]
  | succ r ih =>
    intro i v hi
    rw [w114_5]
    simp (disch := omega) [w114_0, w114_1, w114_2, w114_3, w114_7, w114_8, w114_11, w114_12, w114_13, w114_14, w114_15, w114_16, w114_19, w114_22, w114_23, rt114, aw_st, ai_cls, ai_len, ai_p, ai_sw, ai_m, ai_c, ai_at, ai_isI, ai_isJ, ai_isA, ai_ld, ai_1i, ai_2i, ai_2l, ai_cn, ai_j, ai_set, ai_set2, ai_nl, ai_rs, ai_sm, Value.category, hk0, hk1, lits, litb, litm, litm2, List.getElem?_cons_zero, List.getElem?_cons_succ, or_n0, bit_r, fi0, fi1, fi2, fi3, nI_toInt, nI_add, pk_mul, nI_leI, nI_ltI, nI_eq, pk_sub, ib_nI, nI_clamp, va_up_self, va_up_ne, va_up_up, va_up_comm, pk_us, pk_un, upd_up, updL_up, pk_uLs, pk_uLn, b01_1, b01_0, b01_1s, b01_0s, or_b, nI_l, lN_mul, show ¬ e ≤ i by omega]
    rw [ih (i + 1) (v * b) (by omega), Nat.pow_succ, Nat.mul_comm (b ^ r) b, Nat.mul_assoc]
theorem pow_114 {b e : Nat} (hb : b ≤ 1000) (he : e ≤ 1000) : aw ET G d 114 0 [some (.int (nI b)), some (.int (nI e)), none, none, none] [] n sl M Q = Q [.long (lN (b ^ e))] n sl M := by
  have := pow_loop_114 (G := G) (d := d) (n := n) (sl := sl) (M := M) (Q := Q) hb he e 0 1 (by omega)
  rw [Nat.one_mul] at this
  simp [w114_0, w114_1, w114_2, w114_3, w114_7, w114_8, w114_11, w114_12, w114_13, w114_14, w114_15, w114_16, w114_19, w114_22, w114_23, rt114, aw_st, ai_cls, ai_len, ai_p, ai_sw, ai_m, ai_c, ai_at, ai_isI, ai_isJ, ai_isA, ai_ld, ai_1i, ai_2i, ai_2l, ai_cn, ai_j, ai_set, ai_set2, ai_nl, ai_rs, ai_sm, Value.category, hk0, hk1, lits, litb, litm, litm2, List.getElem?_cons_zero, List.getElem?_cons_succ, or_n0, bit_r, fi0, fi1, fi2, fi3, nI_toInt, nI_add, pk_mul, nI_leI, nI_ltI, nI_eq, pk_sub, ib_nI, nI_clamp, va_up_self, va_up_ne, va_up_up, va_up_comm, pk_us, pk_un, upd_up, updL_up, pk_uLs, pk_uLn, b01_1, b01_0, b01_1s, b01_0s, or_b, fin2, litl, ofN]
  exact Iff.of_eq this
set_option maxHeartbeats 4000000 in
theorem pow_loop_248 {b e : Nat} (hb : b ≤ 1000) (he : e ≤ 1000) : ∀ (r i v : Nat), i + r = e → aw ET G d 248 5 [some (.int (nI b)), some (.int (nI e)), some (.long (lN v)), none, some (.int (nI i))] [] n sl M Q = Q [.long (lN (v * b ^ r))] n sl M := by
  intro r
  induction r with
  | zero =>
    intro i v hi
    simp (disch := omega) [w248_0, w248_1, w248_2, w248_3, w248_5, w248_7, w248_8, w248_11, w248_12, w248_13, w248_14, w248_15, w248_16, w248_19, w248_22, w248_23, rt248, aw_st, ai_cls, ai_len, ai_p, ai_sw, ai_m, ai_c, ai_at, ai_isI, ai_isJ, ai_isA, ai_ld, ai_1i, ai_2i, ai_2l, ai_cn, ai_j, ai_set, ai_set2, ai_nl, ai_rs, ai_sm, Value.category, hk0, hk1, lits, litb, litm, litm2, List.getElem?_cons_zero, List.getElem?_cons_succ, or_n0, bit_r, fi0, fi1, fi2, fi3, nI_toInt, nI_add, pk_mul, nI_leI, nI_ltI, nI_eq, pk_sub, ib_nI, nI_clamp, va_up_self, va_up_ne, va_up_up, va_up_comm, pk_us, pk_un, upd_up, updL_up, pk_uLs, pk_uLn, b01_1, b01_0, b01_1s, b01_0s, or_b, show e ≤ i by omega]
  | succ r ih =>
    intro i v hi
    rw [w248_5]
    simp (disch := omega) [w248_0, w248_1, w248_2, w248_3, w248_7, w248_8, w248_11, w248_12, w248_13, w248_14, w248_15, w248_16, w248_19, w248_22, w248_23, rt248, aw_st, ai_cls, ai_len, ai_p, ai_sw, ai_m, ai_c, ai_at, ai_isI, ai_isJ, ai_isA, ai_ld, ai_1i, ai_2i, ai_2l, ai_cn, ai_j, ai_set, ai_set2, ai_nl, ai_rs, ai_sm, Value.category, hk0, hk1, lits, litb, litm, litm2, List.getElem?_cons_zero, List.getElem?_cons_succ, or_n0, bit_r, fi0, fi1, fi2, fi3, nI_toInt, nI_add, pk_mul, nI_leI, nI_ltI, nI_eq, pk_sub, ib_nI, nI_clamp, va_up_self, va_up_ne, va_up_up, va_up_comm, pk_us, pk_un, upd_up, updL_up, pk_uLs, pk_uLn, b01_1, b01_0, b01_1s, b01_0s, or_b, nI_l, lN_mul, show ¬ e ≤ i by omega]
    rw [ih (i + 1) (v * b) (by omega), Nat.pow_succ, Nat.mul_comm (b ^ r) b, Nat.mul_assoc]
theorem pow_248 {b e : Nat} (hb : b ≤ 1000) (he : e ≤ 1000) : aw ET G d 248 0 [some (.int (nI b)), some (.int (nI e)), none, none, none] [] n sl M Q = Q [.long (lN (b ^ e))] n sl M := by
  have := pow_loop_248 (G := G) (d := d) (n := n) (sl := sl) (M := M) (Q := Q) hb he e 0 1 (by omega)
  rw [Nat.one_mul] at this
  simp [w248_0, w248_1, w248_2, w248_3, w248_7, w248_8, w248_11, w248_12, w248_13, w248_14, w248_15, w248_16, w248_19, w248_22, w248_23, rt248, aw_st, ai_cls, ai_len, ai_p, ai_sw, ai_m, ai_c, ai_at, ai_isI, ai_isJ, ai_isA, ai_ld, ai_1i, ai_2i, ai_2l, ai_cn, ai_j, ai_set, ai_set2, ai_nl, ai_rs, ai_sm, Value.category, hk0, hk1, lits, litb, litm, litm2, List.getElem?_cons_zero, List.getElem?_cons_succ, or_n0, bit_r, fi0, fi1, fi2, fi3, nI_toInt, nI_add, pk_mul, nI_leI, nI_ltI, nI_eq, pk_sub, ib_nI, nI_clamp, va_up_self, va_up_ne, va_up_up, va_up_comm, pk_us, pk_un, upd_up, updL_up, pk_uLs, pk_uLn, b01_1, b01_0, b01_1s, b01_0s, or_b, fin2, litl, ofN]
  exact Iff.of_eq this
/-- in how many ways: the class, the reference -/
def cC (n j : Nat) : Nat → Nat → Nat → Nat
  | _, 0, v => v
  | i, r + 1, v => cC n j (i + 1) r (v * (n - j + i) / i)
def rC (n : Nat) : Nat → Nat → Nat → Nat
  | _, 0, v => v
  | i, r + 1, v => rC n (i + 1) r (v * (n - i) / (i + 1))
def okC (n j : Nat) : Nat → Nat → Nat → Bool
  | _, 0, v => decide (v ≤ 1000000)
  | i, r + 1, v => decide (v ≤ 1000000) && okC n j (i + 1) r (v * (n - j + i) / i)
def okR (n : Nat) : Nat → Nat → Nat → Bool
  | _, 0, v => decide (v ≤ 1000000)
  | i, r + 1, v => decide (v ≤ 1000000) && okR n (i + 1) r (v * (n - i) / (i + 1))
theorem cC_ok : ∀ n, n < 13 → ∀ j, j < 13 → j ≤ n → okC n j 1 j 1 = true ∧ okR n 0 j 1 = true ∧ cC n j 1 j 1 = rC n 0 j 1 := by decide +kernel
def grN (n j k m : Nat) : Nat := if n < j then 0 else cC n j 1 j 1 * k ^ j * (m - k) ^ (n - j)
def eucT : Nat → Nat → Nat → Nat
  | 0, x, _ => x
  | r + 1, x, y => if y = 0 then x else eucT r y (x % y)
def eucE : Nat → Nat → Nat → Bool
  | 0, _, y => decide (y = 0)
  | r + 1, x, y => if y = 0 then true else eucE r y (x % y)
def grfB (n j k m : Nat) : Bool := decide (grN n j k m ≤ 2176782336) && (decide (m ^ n ≤ 2176782336) && (eucE 200 (grN n j k m) (m ^ n) && (decide (0 < eucT 200 (grN n j k m) (m ^ n)) && decide (eucT 200 (grN n j k m) (m ^ n) ≤ 2176782336))))
theorem grf_all : ((List.range 13).all fun n => (List.range 7).all fun m => (List.range 7).all fun k => (List.range 13).all fun j => decide (m = 0) || (decide (m < k) || grfB n j k m)) = true := by decide +kernel
theorem grf_ok {n j k m : Nat} (hn : n ≤ 12) (hm : m ≤ 6) (hj : j ≤ 12) (h1 : 1 ≤ m) (hk : k ≤ m) : grN n j k m ≤ 2176782336 ∧ m ^ n ≤ 2176782336 ∧ eucE 200 (grN n j k m) (m ^ n) = true ∧ 0 < eucT 200 (grN n j k m) (m ^ n) ∧ eucT 200 (grN n j k m) (m ^ n) ≤ 2176782336 := by
  have h := grf_all
  rw [List.all_eq_true] at h
  have h := h n (List.mem_range.mpr (by omega))
  rw [List.all_eq_true] at h
  have h := h m (List.mem_range.mpr (by omega))
  rw [List.all_eq_true] at h
  have h := h k (List.mem_range.mpr (by omega))
  rw [List.all_eq_true] at h
  have h := h j (List.mem_range.mpr (by omega))
  simp only [Bool.or_eq_true, decide_eq_true_eq, show ¬ m = 0 by omega, show ¬ m < k by omega, false_or] at h
  unfold grfB at h
  simp only [Bool.and_eq_true, decide_eq_true_eq] at h
  exact h
set_option maxHeartbeats 4000000 in
theorem ways_loop {N j k m : Nat} (hN : N ≤ 12) (hj : j ≤ N) : ∀ (r i v : Nat), i + r = j + 1 → 1 ≤ i → okC N j i r v = true → aw ET G d 115 13 [some (.int (nI N)), some (.int (nI j)), some (.int (nI k)), some (.int (nI m)), some (.long (lN v)), none, some (.int (nI i))] [] n sl M Q = aw ET G d 115 41 [some (.int (nI N)), some (.int (nI j)), some (.int (nI k)), some (.int (nI m)), some (.long (lN (cC N j i r v))), none, some (.int (nI (j + 1)))] [] n sl M Q := by
  intro r
  induction r with
  | zero =>
    intro i v hi h1 ho
    have : i = j + 1 := by omega
    subst this
    simp (disch := omega) [w115_13, w115_15, w115_16, aw_st, ai_cls, ai_len, ai_p, ai_sw, ai_m, ai_c, ai_at, ai_isI, ai_isJ, ai_isA, ai_ld, ai_1i, ai_2i, ai_2l, ai_cn, ai_j, ai_set, ai_set2, ai_nl, ai_rs, ai_sm, Value.category, hk0, hk1, lits, litb, litm, litm2, List.getElem?_cons_zero, List.getElem?_cons_succ, or_n0, bit_r, fi0, fi1, fi2, fi3, nI_toInt, nI_add, pk_mul, nI_leI, nI_ltI, nI_eq, pk_sub, ib_nI, nI_clamp, va_up_self, va_up_ne, va_up_up, va_up_comm, pk_us, pk_un, upd_up, updL_up, pk_uLs, pk_uLn, b01_1, b01_0, b01_1s, b01_0s, or_b, cC, show j < j + 1 by omega]
  | succ r ih =>
    intro i v hi h1 ho
    unfold okC at ho
    simp only [Bool.and_eq_true, decide_eq_true_eq] at ho
    have hb : v * (N - j + i) ≤ 1000000 * 24 := Nat.mul_le_mul ho.1 (by omega)
    rw [w115_13]
    simp (disch := omega) [w115_15, w115_16, w115_19, w115_21, w115_22, w115_23, w115_24, w115_26, w115_27, w115_28, w115_29, w115_31, w115_32, w115_33, w115_35, w115_38, aw_st, ai_cls, ai_len, ai_p, ai_sw, ai_m, ai_c, ai_at, ai_isI, ai_isJ, ai_isA, ai_ld, ai_1i, ai_2i, ai_2l, ai_cn, ai_j, ai_set, ai_set2, ai_nl, ai_rs, ai_sm, Value.category, hk0, hk1, lits, litb, litm, litm2, List.getElem?_cons_zero, List.getElem?_cons_succ, or_n0, bit_r, fi0, fi1, fi2, fi3, nI_toInt, nI_add, pk_mul, nI_leI, nI_ltI, nI_eq, pk_sub, ib_nI, nI_clamp, va_up_self, va_up_ne, va_up_up, va_up_comm, pk_us, pk_un, upd_up, updL_up, pk_uLs, pk_uLn, b01_1, b01_0, b01_1s, b01_0s, or_b, nI_l, lN_mul, litl, pk_lDiv, pk_lEQ, show ¬ j < i by omega, show ¬ i = 0 by omega]
    rw [ih (i + 1) _ (by omega) (by omega) ho.2]
    rfl
set_option maxHeartbeats 4000000 in
theorem ways_eq {N j k m : Nat} (hN : N ≤ 12) (hj : j ≤ 12) (hm : m ≤ 6) (hk : k ≤ m) : aw ET G (d + 1) 115 0 [some (.int (nI N)), some (.int (nI j)), some (.int (nI k)), some (.int (nI m)), none, none, none] [] n sl M Q = Q [.long (lN (grN N j k m))] n sl M := by
  by_cases h : N < j
  · simp (disch := omega) [w115_0, w115_1, w115_2, w115_5, w115_6, w115_7, w115_8, w115_10, w115_11, w115_13, w115_15, w115_16, w115_19, w115_21, w115_22, w115_23, w115_24, w115_26, w115_27, w115_28, w115_29, w115_31, w115_32, w115_33, w115_35, w115_38, w115_41, w115_43, w115_44, x115_45, w115_48, w115_49, w115_50, w115_51, w115_52, w115_53, w115_54, x115_55, w115_58, w115_59, rt115, aw_st, ai_cls, ai_len, ai_p, ai_sw, ai_m, ai_c, ai_at, ai_isI, ai_isJ, ai_isA, ai_ld, ai_1i, ai_2i, ai_2l, ai_cn, ai_j, ai_set, ai_set2, ai_nl, ai_rs, ai_sm, Value.category, hk0, hk1, lits, litb, litm, litm2, List.getElem?_cons_zero, List.getElem?_cons_succ, or_n0, bit_r, fi0, fi1, fi2, fi3, nI_toInt, nI_add, pk_mul, nI_leI, nI_ltI, nI_eq, pk_sub, ib_nI, nI_clamp, va_up_self, va_up_ne, va_up_up, va_up_comm, pk_us, pk_un, upd_up, updL_up, pk_uLs, pk_uLn, b01_1, b01_0, b01_1s, b01_0s, or_b, fin2, litl, ofN, grN, h, show ¬ j ≤ N by omega]
  · have hl := ways_loop (G := G) (d := d + 1) (n := n) (sl := sl) (M := M) (Q := Q) (k := k) (m := m) hN (show j ≤ N by omega) j 1 1 (by omega) (by omega) (cC_ok N (by omega) j (by omega) (by omega)).1
    simp (disch := omega) [w115_0, w115_1, w115_2, w115_7, w115_8, w115_10, w115_11, aw_st, ai_cls, ai_len, ai_p, ai_sw, ai_m, ai_c, ai_at, ai_isI, ai_isJ, ai_isA, ai_ld, ai_1i, ai_2i, ai_2l, ai_cn, ai_j, ai_set, ai_set2, ai_nl, ai_rs, ai_sm, Value.category, hk0, hk1, lits, litb, litm, litm2, List.getElem?_cons_zero, List.getElem?_cons_succ, or_n0, bit_r, fi0, fi1, fi2, fi3, nI_toInt, nI_add, pk_mul, nI_leI, nI_ltI, nI_eq, pk_sub, ib_nI, nI_clamp, va_up_self, va_up_ne, va_up_up, va_up_comm, pk_us, pk_un, upd_up, updL_up, pk_uLs, pk_uLn, b01_1, b01_0, b01_1s, b01_0s, or_b, fin2, litl, ofN, show j ≤ N by omega]
    rw [hl]
    simp (disch := omega) [w115_41, w115_43, w115_44, x115_45, w115_48, w115_49, w115_50, w115_51, w115_52, w115_53, w115_54, x115_55, w115_58, w115_59, rt115, aw_st, ai_cls, ai_len, ai_p, ai_sw, ai_m, ai_c, ai_at, ai_isI, ai_isJ, ai_isA, ai_ld, ai_1i, ai_2i, ai_2l, ai_cn, ai_j, ai_set, ai_set2, ai_nl, ai_rs, ai_sm, Value.category, hk0, hk1, lits, litb, litm, litm2, List.getElem?_cons_zero, List.getElem?_cons_succ, or_n0, bit_r, fi0, fi1, fi2, fi3, nI_toInt, nI_add, pk_mul, nI_leI, nI_ltI, nI_eq, pk_sub, ib_nI, nI_clamp, va_up_self, va_up_ne, va_up_up, va_up_comm, pk_us, pk_un, upd_up, updL_up, pk_uLs, pk_uLn, b01_1, b01_0, b01_1s, b01_0s, or_b, pow_114, lN_mul, grN, h]
set_option maxHeartbeats 4000000 in
theorem rways_loop {N j k m : Nat} (hN : N ≤ 12) (hj : j ≤ N) : ∀ (r i v : Nat), i + r = j → okR N i r v = true → aw ET G d 247 13 [some (.int (nI N)), some (.int (nI j)), some (.int (nI k)), some (.int (nI m)), some (.long (lN v)), none, some (.int (nI i))] [] n sl M Q = aw ET G d 247 41 [some (.int (nI N)), some (.int (nI j)), some (.int (nI k)), some (.int (nI m)), some (.long (lN (rC N i r v))), none, some (.int (nI j))] [] n sl M Q := by
  intro r
  induction r with
  | zero =>
    intro i v hi ho
    have : i = j := by omega
    subst this
    simp (disch := omega) [w247_13, w247_15, w247_16, aw_st, ai_cls, ai_len, ai_p, ai_sw, ai_m, ai_c, ai_at, ai_isI, ai_isJ, ai_isA, ai_ld, ai_1i, ai_2i, ai_2l, ai_cn, ai_j, ai_set, ai_set2, ai_nl, ai_rs, ai_sm, Value.category, hk0, hk1, lits, litb, litm, litm2, List.getElem?_cons_zero, List.getElem?_cons_succ, or_n0, bit_r, fi0, fi1, fi2, fi3, nI_toInt, nI_add, pk_mul, nI_leI, nI_ltI, nI_eq, pk_sub, ib_nI, nI_clamp, va_up_self, va_up_ne, va_up_up, va_up_comm, pk_us, pk_un, upd_up, updL_up, pk_uLs, pk_uLn, b01_1, b01_0, b01_1s, b01_0s, or_b, rC]
  | succ r ih =>
    intro i v hi ho
    unfold okR at ho
    simp only [Bool.and_eq_true, decide_eq_true_eq] at ho
    have hb : v * (N - i) ≤ 1000000 * 24 := Nat.mul_le_mul ho.1 (by omega)
    rw [w247_13]
    simp (disch := omega) [w247_15, w247_16, w247_19, w247_21, w247_22, w247_24, w247_25, w247_26, w247_27, w247_29, w247_30, w247_31, w247_32, w247_33, w247_35, w247_38, aw_st, ai_cls, ai_len, ai_p, ai_sw, ai_m, ai_c, ai_at, ai_isI, ai_isJ, ai_isA, ai_ld, ai_1i, ai_2i, ai_2l, ai_cn, ai_j, ai_set, ai_set2, ai_nl, ai_rs, ai_sm, Value.category, hk0, hk1, lits, litb, litm, litm2, List.getElem?_cons_zero, List.getElem?_cons_succ, or_n0, bit_r, fi0, fi1, fi2, fi3, nI_toInt, nI_add, pk_mul, nI_leI, nI_ltI, nI_eq, pk_sub, ib_nI, nI_clamp, va_up_self, va_up_ne, va_up_up, va_up_comm, pk_us, pk_un, upd_up, updL_up, pk_uLs, pk_uLn, b01_1, b01_0, b01_1s, b01_0s, or_b, nI_l, lN_mul, litl, pk_lDiv, pk_lEQ, show ¬ j ≤ i by omega]
    rw [ih (i + 1) _ (by omega) ho.2]
    rfl
set_option maxHeartbeats 4000000 in
theorem rways_eq {N j k m : Nat} (hN : N ≤ 12) (hj : j ≤ 12) (hm : m ≤ 6) (hk : k ≤ m) : aw ET G (d + 1) 247 0 [some (.int (nI N)), some (.int (nI j)), some (.int (nI k)), some (.int (nI m)), none, none, none] [] n sl M Q = Q [.long (lN (grN N j k m))] n sl M := by
  by_cases h : N < j
  · simp (disch := omega) [w247_0, w247_1, w247_2, w247_5, w247_6, w247_7, w247_8, w247_10, w247_11, w247_13, w247_15, w247_16, w247_19, w247_21, w247_22, w247_24, w247_25, w247_26, w247_27, w247_29, w247_30, w247_31, w247_32, w247_33, w247_35, w247_38, w247_41, w247_43, w247_44, x247_45, w247_48, w247_49, w247_50, w247_51, w247_52, w247_53, w247_54, x247_55, w247_58, w247_59, rt247, aw_st, ai_cls, ai_len, ai_p, ai_sw, ai_m, ai_c, ai_at, ai_isI, ai_isJ, ai_isA, ai_ld, ai_1i, ai_2i, ai_2l, ai_cn, ai_j, ai_set, ai_set2, ai_nl, ai_rs, ai_sm, Value.category, hk0, hk1, lits, litb, litm, litm2, List.getElem?_cons_zero, List.getElem?_cons_succ, or_n0, bit_r, fi0, fi1, fi2, fi3, nI_toInt, nI_add, pk_mul, nI_leI, nI_ltI, nI_eq, pk_sub, ib_nI, nI_clamp, va_up_self, va_up_ne, va_up_up, va_up_comm, pk_us, pk_un, upd_up, updL_up, pk_uLs, pk_uLn, b01_1, b01_0, b01_1s, b01_0s, or_b, fin2, litl, ofN, grN, h, show ¬ j ≤ N by omega]
  · have hc := cC_ok N (by omega) j (by omega) (by omega)
    have hl := rways_loop (G := G) (d := d + 1) (n := n) (sl := sl) (M := M) (Q := Q) (k := k) (m := m) hN (show j ≤ N by omega) j 0 1 (by omega) hc.2.1
    simp (disch := omega) [w247_0, w247_1, w247_2, w247_7, w247_8, w247_10, w247_11, aw_st, ai_cls, ai_len, ai_p, ai_sw, ai_m, ai_c, ai_at, ai_isI, ai_isJ, ai_isA, ai_ld, ai_1i, ai_2i, ai_2l, ai_cn, ai_j, ai_set, ai_set2, ai_nl, ai_rs, ai_sm, Value.category, hk0, hk1, lits, litb, litm, litm2, List.getElem?_cons_zero, List.getElem?_cons_succ, or_n0, bit_r, fi0, fi1, fi2, fi3, nI_toInt, nI_add, pk_mul, nI_leI, nI_ltI, nI_eq, pk_sub, ib_nI, nI_clamp, va_up_self, va_up_ne, va_up_up, va_up_comm, pk_us, pk_un, upd_up, updL_up, pk_uLs, pk_uLn, b01_1, b01_0, b01_1s, b01_0s, or_b, fin2, litl, ofN, show j ≤ N by omega]
    rw [hl]
    simp (disch := omega) [w247_41, w247_43, w247_44, x247_45, w247_48, w247_49, w247_50, w247_51, w247_52, w247_53, w247_54, x247_55, w247_58, w247_59, rt247, aw_st, ai_cls, ai_len, ai_p, ai_sw, ai_m, ai_c, ai_at, ai_isI, ai_isJ, ai_isA, ai_ld, ai_1i, ai_2i, ai_2l, ai_cn, ai_j, ai_set, ai_set2, ai_nl, ai_rs, ai_sm, Value.category, hk0, hk1, lits, litb, litm, litm2, List.getElem?_cons_zero, List.getElem?_cons_succ, or_n0, bit_r, fi0, fi1, fi2, fi3, nI_toInt, nI_add, pk_mul, nI_leI, nI_ltI, nI_eq, pk_sub, ib_nI, nI_clamp, va_up_self, va_up_ne, va_up_up, va_up_comm, pk_us, pk_un, upd_up, updL_up, pk_uLs, pk_uLn, b01_1, b01_0, b01_1s, b01_0s, or_b, pow_248, lN_mul, grN, h, hc.2.2]
end GRF
