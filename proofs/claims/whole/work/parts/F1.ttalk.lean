/-! TALKED: the class, its small methods -/
section TTK
variable {G : ai_G} {d sl : Nat} {Q : List Value → Nat → Nat → ai_M → Prop} {Y : mY} {X : mX} {P c : Nat}
theorem div_small {a b : Nat} (ha : a < 110) (hb : 0 < b) (hb2 : b ≤ 6) : nI a / nI b = nI (a / b) := by
  have : (List.range 110).all (fun a => (List.range 7).all (fun b => b == 0 || nI a / nI b == nI (a / b))) = true := by decide +kernel
  have h := List.all_eq_true.mp (List.all_eq_true.mp this a (List.mem_range.mpr ha)) b (List.mem_range.mpr (by omega))
  simp only [Bool.or_eq_true, beq_iff_eq] at h
  exact h.resolve_left (by omega)
theorem mod_small {a b : Nat} (ha : a < 110) (hb : 0 < b) (hb2 : b ≤ 6) : nI a - nI a / nI b * nI b = nI (a % b) := by
  rw [div_small ha hb hb2, pk_mul, pk_sub (by have := Nat.div_mul_le_self a b; omega)]
  congr 1
  have := Nat.div_add_mod a b
  rw [Nat.mul_comm] at this
  omega
def cdH (P c : Nat) : Nat := c / 3 / P
def cdW (P c : Nat) : Nat := c / 3 % P
theorem hearer_eq (hP : 0 < P) (hP6 : P ≤ 6) (hc : c < 108) : aw ET G d 129 0 [some (.int (nI c)), some (.int (nI P))] [] 231 sl (mem X Y) Q = Q [.int (nI (cdH P c))] 231 sl (mem X Y) := by
  unfold cdH
  have h1 := div_small (a := c) (b := 3) (by omega) (by omega) (by omega)
  have h2 := div_small (a := c / 3) (b := P) (by omega) hP hP6
  have h3 : ¬ P ≤ 0 := by omega
  simp (disch := omega) [w129_0, w129_1, w129_4, w129_5, w129_6, w129_7, w129_8, w129_9, w129_12, w129_13, rt129, aw_st, ai_cls, ai_len, ai_p, ai_sw, ai_m, ai_c, ai_at, ai_isI, ai_isJ, ai_isA, ai_ld, ai_1i, ai_2i, ai_2l, ai_cn, ai_j, ai_set, ai_set2, ai_nl, ai_rs, ai_sm, Value.category, hk0, hk1, lits, litb, litm, litm2, List.getElem?_cons_zero, List.getElem?_cons_succ, or_n0, bit_r, fi0, fi1, fi2, fi3, nI_toInt, nI_add, pk_mul, nI_leI, nI_ltI, nI_eq, pk_sub, ib_nI, nI_clamp, va_up_self, va_up_ne, va_up_up, va_up_comm, pk_us, pk_un, upd_up, updL_up, pk_uLs, pk_uLn, b01_1, b01_0, b01_1s, b01_0s, or_b, h1, h2, h3, hP, show ¬ P = 0 by omega]
theorem whom_eq (hP : 0 < P) (hP6 : P ≤ 6) (hc : c < 108) : aw ET G d 130 0 [some (.int (nI c)), some (.int (nI P))] [] 231 sl (mem X Y) Q = Q [.int (nI (cdW P c))] 231 sl (mem X Y) := by
  unfold cdW
  have h1 := div_small (a := c) (b := 3) (by omega) (by omega) (by omega)
  have h2 := mod_small (a := c / 3) (b := P) (by omega) hP hP6
  have h3 : ¬ P ≤ 0 := by omega
  simp (disch := omega) [w130_0, w130_1, w130_4, w130_5, w130_6, w130_7, w130_8, w130_9, w130_12, w130_13, rt130, aw_st, ai_cls, ai_len, ai_p, ai_sw, ai_m, ai_c, ai_at, ai_isI, ai_isJ, ai_isA, ai_ld, ai_1i, ai_2i, ai_2l, ai_cn, ai_j, ai_set, ai_set2, ai_nl, ai_rs, ai_sm, Value.category, hk0, hk1, lits, litb, litm, litm2, List.getElem?_cons_zero, List.getElem?_cons_succ, or_n0, bit_r, fi0, fi1, fi2, fi3, nI_toInt, nI_add, pk_mul, nI_leI, nI_ltI, nI_eq, ib_nI, nI_clamp, va_up_self, va_up_ne, va_up_up, va_up_comm, pk_us, pk_un, upd_up, updL_up, pk_uLs, pk_uLn, b01_1, b01_0, b01_1s, b01_0s, or_b, h1, h2, h3, hP, show ¬ P = 0 by omega]
theorem hours_eq (hc : c < 108) : aw ET G d 132 0 [some (.int (nI c))] [] 231 sl (mem X Y) Q = Q [.int (nI (c % 3 + 1))] 231 sl (mem X Y) := by
  have h2 := mod_small (a := c) (b := 3) (by omega) (by omega) (by omega)
  simp (disch := omega) [w132_0, w132_1, w132_2, w132_3, w132_4, w132_5, rt132, aw_st, ai_cls, ai_len, ai_p, ai_sw, ai_m, ai_c, ai_at, ai_isI, ai_isJ, ai_isA, ai_ld, ai_1i, ai_2i, ai_2l, ai_cn, ai_j, ai_set, ai_set2, ai_nl, ai_rs, ai_sm, Value.category, hk0, hk1, lits, litb, litm, litm2, List.getElem?_cons_zero, List.getElem?_cons_succ, or_n0, bit_r, fi0, fi1, fi2, fi3, nI_toInt, nI_add, pk_mul, nI_leI, nI_ltI, nI_eq, ib_nI, nI_clamp, va_up_self, va_up_ne, va_up_up, va_up_comm, pk_us, pk_un, upd_up, updL_up, pk_uLs, pk_uLn, b01_1, b01_0, b01_1s, b01_0s, or_b, h2]
end TTK
