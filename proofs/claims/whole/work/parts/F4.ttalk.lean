/-! TALKED: the class, nothing is left over -/
section TTO
variable {G : ai_G} {d sl : Nat} {Q : List Value → Nat → Nat → ai_M → Prop} {Y : mY} {X : mX} {P : Nat}
set_option maxHeartbeats 4000000 in
theorem rest_loop (hP6 : P ≤ 6) (hp : X 42 5 = nI P) : ∀ (r i : Nat), i + r = P → aw ET G d 124 2 [some (.ref 42), some (.int (nI i))] [] 231 sl (mem X Y) Q = Q [.int (b01 (evR (X 43) r i = true))] 231 sl (mem X Y) := by
  intro r
  induction r with
  | zero =>
    intro i hi
    have : i = P := by omega
    subst this
    rw [w124_2]
    simp (disch := omega) [w124_3, x124_4_42, w124_7, w124_27, w124_28, rt124, rt124, aw_st, ai_cls, ai_len, ai_p, ai_sw, ai_m, ai_c, ai_at, ai_isI, ai_isJ, ai_isA, ai_ld, ai_1i, ai_2i, ai_2l, ai_cn, ai_j, ai_set, ai_set2, ai_nl, ai_rs, ai_sm, Value.category, hk0, hk1, lits, litb, litm, litm2, List.getElem?_cons_zero, List.getElem?_cons_succ, or_n0, bit_r, fi0, fi1, fi2, fi3, nI_toInt, nI_add, pk_mul, nI_leI, nI_ltI, nI_eq, pk_sub, ib_nI, nI_clamp, va_up_self, va_up_ne, va_up_up, va_up_comm, pk_us, pk_un, upd_up, updL_up, pk_uLs, pk_uLn, b01_1, b01_0, b01_1s, b01_0s, or_b, hp, evR, b01]
  | succ r ih =>
    intro i hi
    rw [w124_2]
    by_cases c : X 43 i = nI 0
    · have := ih (i + 1) (by omega)
      simp (disch := omega) [w124_3, x124_4_42, w124_7, w124_10, x124_11_42, w124_14, w124_15, w124_16, w124_19, w124_20, w124_21, w124_24, rt124, rt124, aw_st, ai_cls, ai_len, ai_p, ai_sw, ai_m, ai_c, ai_at, ai_isI, ai_isJ, ai_isA, ai_ld, ai_1i, ai_2i, ai_2l, ai_cn, ai_j, ai_set, ai_set2, ai_nl, ai_rs, ai_sm, Value.category, hk0, hk1, lits, litb, litm, litm2, List.getElem?_cons_zero, List.getElem?_cons_succ, or_n0, bit_r, fi0, fi1, fi2, fi3, nI_toInt, nI_add, pk_mul, nI_leI, nI_ltI, nI_eq, pk_sub, ib_nI, nI_clamp, va_up_self, va_up_ne, va_up_up, va_up_comm, pk_us, pk_un, upd_up, updL_up, pk_uLs, pk_uLn, b01_1, b01_0, b01_1s, b01_0s, or_b, mm43, hp, show ¬ P ≤ i by omega, c]
      rw [this]
      simp [evR, c]
    · simp (disch := omega) [w124_3, x124_4_42, w124_7, w124_10, x124_11_42, w124_14, w124_15, w124_16, w124_19, w124_20, w124_21, w124_24, rt124, rt124, aw_st, ai_cls, ai_len, ai_p, ai_sw, ai_m, ai_c, ai_at, ai_isI, ai_isJ, ai_isA, ai_ld, ai_1i, ai_2i, ai_2l, ai_cn, ai_j, ai_set, ai_set2, ai_nl, ai_rs, ai_sm, Value.category, hk0, hk1, lits, litb, litm, litm2, List.getElem?_cons_zero, List.getElem?_cons_succ, or_n0, bit_r, fi0, fi1, fi2, fi3, nI_toInt, nI_add, pk_mul, nI_leI, nI_ltI, nI_eq, pk_sub, ib_nI, nI_clamp, va_up_self, va_up_ne, va_up_up, va_up_comm, pk_us, pk_un, upd_up, updL_up, pk_uLs, pk_uLn, b01_1, b01_0, b01_1s, b01_0s, or_b, mm43, hp, show ¬ P ≤ i by omega, c, evR, b01]
theorem rest_eq (hP6 : P ≤ 6) (hp : X 42 5 = nI P) : aw ET G d 124 0 [some (.ref 42), none] [] 231 sl (mem X Y) Q = Q [.int (b01 (evR (X 43) P 0 = true))] 231 sl (mem X Y) := by
  have := rest_loop (G := G) (d := d) (sl := sl) (Q := Q) (Y := Y) hP6 hp P 0 (by omega)
  simp (disch := omega) [w124_0, w124_1, rt124, aw_st, ai_cls, ai_len, ai_p, ai_sw, ai_m, ai_c, ai_at, ai_isI, ai_isJ, ai_isA, ai_ld, ai_1i, ai_2i, ai_2l, ai_cn, ai_j, ai_set, ai_set2, ai_nl, ai_rs, ai_sm, Value.category, hk0, hk1, lits, litb, litm, litm2, List.getElem?_cons_zero, List.getElem?_cons_succ, or_n0, bit_r, fi0, fi1, fi2, fi3, nI_toInt, nI_add, pk_mul, nI_leI, nI_ltI, nI_eq, pk_sub, ib_nI, nI_clamp, va_up_self, va_up_ne, va_up_up, va_up_comm, pk_us, pk_un, upd_up, updL_up, pk_uLs, pk_uLn, b01_1, b01_0, b01_1s, b01_0s, or_b]
  rw [this]
end TTO
