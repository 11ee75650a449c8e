/-! TALKED: the reference, its small methods -/
section RTK
variable {G : ai_G} {d sl : Nat} {Q : List Value → Nat → Nat → ai_M → Prop} {Y : mY} {X : mX} {P : Nat}
def evR (b : Nat → Int32) : Nat → Nat → Bool
  | 0, _ => true
  | r + 1, q => decide (b q = nI 0) && evR b r (q + 1)
set_option maxHeartbeats 4000000 in
theorem even_loop (hP : P ≤ 6) : ∀ (r i : Nat) (e : Bool), i + r = P → aw ET G d 259 4 [some (.ref 199), some (.int (nI P)), some (.int (b01 (e = true))), some (.int (nI i))] [] 231 sl (mem X Y) Q = Q [.int (b01 ((e && evR (X 219) r i) = true))] 231 sl (mem X Y) := by
  intro r
  induction r with
  | zero =>
    intro i e hi
    have : i = P := by omega
    subst this
    rw [w259_4]
    simp (disch := omega) [w259_5, w259_6, w259_34, w259_35, rt259, rt259, aw_st, ai_cls, ai_len, ai_p, ai_sw, ai_m, ai_c, ai_at, ai_isI, ai_isJ, ai_isA, ai_ld, ai_1i, ai_2i, ai_2l, ai_cn, ai_j, ai_set, ai_set2, ai_nl, ai_rs, ai_sm, Value.category, hk0, hk1, lits, litb, litm, litm2, List.getElem?_cons_zero, List.getElem?_cons_succ, or_n0, bit_r, fi0, fi1, fi2, fi3, nI_toInt, nI_add, pk_mul, nI_leI, nI_ltI, nI_eq, pk_sub, ib_nI, nI_clamp, va_up_self, va_up_ne, va_up_up, va_up_comm, pk_us, pk_un, upd_up, updL_up, pk_uLs, pk_uLn, b01_1, b01_0, b01_1s, b01_0s, or_b, mm200, mu200, mm201, mu201, mm202, mu202, mm203, mu203, mm204, mu204, mm205, mu205, mm206, mu206, mm207, mu207, mm208, mu208, mm209, mu209, mm210, mu210, mm211, mu211, mm212, mu212, mm213, mu213, mm214, mu214, mm215, mu215, mm216, mu216, mm217, mu217, mm218, mu218, mm219, mu219, mm220, mu220, mm221, mu221, mm222, mu222, mm223, mu223, mm224, mu224, mm225, mu225, mm226, mu226, mm227, mu227, mm228, mu228, mm229, mu229, mm230, mu230, evR]
  | succ r ih =>
    intro i e hi
    rw [w259_4]
    cases e
    · have := ih (i + 1) false (by omega)
      have e0 : b01 (false = true) = nI 0 := by decide
      rw [e0] at this ⊢
      simp (disch := omega) [w259_5, w259_6, w259_9, w259_10, w259_13, x259_14, w259_17, w259_18, w259_19, w259_22, w259_23, w259_26, w259_27, w259_28, w259_31, rt259, rt259, aw_st, ai_cls, ai_len, ai_p, ai_sw, ai_m, ai_c, ai_at, ai_isI, ai_isJ, ai_isA, ai_ld, ai_1i, ai_2i, ai_2l, ai_cn, ai_j, ai_set, ai_set2, ai_nl, ai_rs, ai_sm, Value.category, hk0, hk1, lits, litb, litm, litm2, List.getElem?_cons_zero, List.getElem?_cons_succ, or_n0, bit_r, fi0, fi1, fi2, fi3, nI_toInt, nI_add, pk_mul, nI_leI, nI_ltI, nI_eq, pk_sub, ib_nI, nI_clamp, va_up_self, va_up_ne, va_up_up, va_up_comm, pk_us, pk_un, upd_up, updL_up, pk_uLs, pk_uLn, b01_1, b01_0, b01_1s, b01_0s, or_b, mm200, mu200, mm201, mu201, mm202, mu202, mm203, mu203, mm204, mu204, mm205, mu205, mm206, mu206, mm207, mu207, mm208, mu208, mm209, mu209, mm210, mu210, mm211, mu211, mm212, mu212, mm213, mu213, mm214, mu214, mm215, mu215, mm216, mu216, mm217, mu217, mm218, mu218, mm219, mu219, mm220, mu220, mm221, mu221, mm222, mu222, mm223, mu223, mm224, mu224, mm225, mu225, mm226, mu226, mm227, mu227, mm228, mu228, mm229, mu229, mm230, mu230, show ¬ P ≤ i by omega]
      rw [this]
      simp
    · have e1 : b01 (true = true) = nI 1 := by decide
      have e0 : b01 (false = true) = nI 0 := by decide
      by_cases c : X 219 i = nI 0
      · have := ih (i + 1) true (by omega)
        rw [e1] at this ⊢
        simp (disch := omega) [w259_5, w259_6, w259_9, w259_10, w259_13, x259_14, w259_17, w259_18, w259_19, w259_22, w259_23, w259_26, w259_27, w259_28, w259_31, rt259, rt259, aw_st, ai_cls, ai_len, ai_p, ai_sw, ai_m, ai_c, ai_at, ai_isI, ai_isJ, ai_isA, ai_ld, ai_1i, ai_2i, ai_2l, ai_cn, ai_j, ai_set, ai_set2, ai_nl, ai_rs, ai_sm, Value.category, hk0, hk1, lits, litb, litm, litm2, List.getElem?_cons_zero, List.getElem?_cons_succ, or_n0, bit_r, fi0, fi1, fi2, fi3, nI_toInt, nI_add, pk_mul, nI_leI, nI_ltI, nI_eq, pk_sub, ib_nI, nI_clamp, va_up_self, va_up_ne, va_up_up, va_up_comm, pk_us, pk_un, upd_up, updL_up, pk_uLs, pk_uLn, b01_1, b01_0, b01_1s, b01_0s, or_b, mm200, mu200, mm201, mu201, mm202, mu202, mm203, mu203, mm204, mu204, mm205, mu205, mm206, mu206, mm207, mu207, mm208, mu208, mm209, mu209, mm210, mu210, mm211, mu211, mm212, mu212, mm213, mu213, mm214, mu214, mm215, mu215, mm216, mu216, mm217, mu217, mm218, mu218, mm219, mu219, mm220, mu220, mm221, mu221, mm222, mu222, mm223, mu223, mm224, mu224, mm225, mu225, mm226, mu226, mm227, mu227, mm228, mu228, mm229, mu229, mm230, mu230, show ¬ P ≤ i by omega, c]
        rw [this]
        simp [evR, c]
      · have := ih (i + 1) false (by omega)
        rw [e0] at this
        rw [e1]
        simp (disch := omega) [w259_5, w259_6, w259_9, w259_10, w259_13, x259_14, w259_17, w259_18, w259_19, w259_22, w259_23, w259_26, w259_27, w259_28, w259_31, rt259, rt259, aw_st, ai_cls, ai_len, ai_p, ai_sw, ai_m, ai_c, ai_at, ai_isI, ai_isJ, ai_isA, ai_ld, ai_1i, ai_2i, ai_2l, ai_cn, ai_j, ai_set, ai_set2, ai_nl, ai_rs, ai_sm, Value.category, hk0, hk1, lits, litb, litm, litm2, List.getElem?_cons_zero, List.getElem?_cons_succ, or_n0, bit_r, fi0, fi1, fi2, fi3, nI_toInt, nI_add, pk_mul, nI_leI, nI_ltI, nI_eq, pk_sub, ib_nI, nI_clamp, va_up_self, va_up_ne, va_up_up, va_up_comm, pk_us, pk_un, upd_up, updL_up, pk_uLs, pk_uLn, b01_1, b01_0, b01_1s, b01_0s, or_b, mm200, mu200, mm201, mu201, mm202, mu202, mm203, mu203, mm204, mu204, mm205, mu205, mm206, mu206, mm207, mu207, mm208, mu208, mm209, mu209, mm210, mu210, mm211, mu211, mm212, mu212, mm213, mu213, mm214, mu214, mm215, mu215, mm216, mu216, mm217, mu217, mm218, mu218, mm219, mu219, mm220, mu220, mm221, mu221, mm222, mu222, mm223, mu223, mm224, mu224, mm225, mu225, mm226, mu226, mm227, mu227, mm228, mu228, mm229, mu229, mm230, mu230, show ¬ P ≤ i by omega, c]
        rw [this]
        simp [evR, c]
theorem even_eq (hP : P ≤ 6) : aw ET G d 259 0 [some (.ref 199), some (.int (nI P)), none, none] [] 231 sl (mem X Y) Q = Q [.int (b01 (evR (X 219) P 0 = true))] 231 sl (mem X Y) := by
  have := even_loop (G := G) (d := d) (sl := sl) (Q := Q) (X := X) (Y := Y) hP P 0 true (by omega)
  have e1 : b01 (true = true) = nI 1 := by decide
  rw [e1] at this
  simp only [Bool.true_and] at this
  simp (disch := omega) [w259_0, w259_1, w259_2, w259_3, rt259, aw_st, ai_cls, ai_len, ai_p, ai_sw, ai_m, ai_c, ai_at, ai_isI, ai_isJ, ai_isA, ai_ld, ai_1i, ai_2i, ai_2l, ai_cn, ai_j, ai_set, ai_set2, ai_nl, ai_rs, ai_sm, Value.category, hk0, hk1, lits, litb, litm, litm2, List.getElem?_cons_zero, List.getElem?_cons_succ, or_n0, bit_r, fi0, fi1, fi2, fi3, nI_toInt, nI_add, pk_mul, nI_leI, nI_ltI, nI_eq, pk_sub, ib_nI, nI_clamp, va_up_self, va_up_ne, va_up_up, va_up_comm, pk_us, pk_un, upd_up, updL_up, pk_uLs, pk_uLn, b01_1, b01_0, b01_1s, b01_0s, or_b, mm200, mu200, mm201, mu201, mm202, mu202, mm203, mu203, mm204, mu204, mm205, mu205, mm206, mu206, mm207, mu207, mm208, mu208, mm209, mu209, mm210, mu210, mm211, mu211, mm212, mu212, mm213, mu213, mm214, mu214, mm215, mu215, mm216, mu216, mm217, mu217, mm218, mu218, mm219, mu219, mm220, mu220, mm221, mu221, mm222, mu222, mm223, mu223, mm224, mu224, mm225, mu225, mm226, mu226, mm227, mu227, mm228, mu228, mm229, mu229, mm230, mu230]
  rw [this]
set_option maxHeartbeats 4000000 in
theorem two_eq {i j : Nat} (hi : i < 90) (hj : j < 90) : aw ET G d 261 0 [some (.ref 199), some (.int (nI i)), some (.int (nI j))] [] 231 sl (mem X Y) Q = Q [.int (b01 ((X 216 i = X 216 j ∧ X 217 i = X 217 j) ∨ (X 216 i = X 217 j ∧ X 217 i = X 216 j)))] 231 sl (mem X Y) := by
  by_cases a : X 216 i = X 216 j <;> by_cases b : X 217 i = X 217 j <;> by_cases c : X 216 i = X 217 j <;> by_cases e : X 217 i = X 216 j <;> simp (disch := omega) [w261_0, x261_1, w261_4, w261_5, w261_6, x261_7, w261_10, w261_11, w261_12, w261_15, x261_16, w261_19, w261_20, w261_21, x261_22, w261_25, w261_26, w261_27, w261_30, x261_31, w261_34, w261_35, w261_36, x261_37, w261_40, w261_41, w261_42, w261_45, x261_46, w261_49, w261_50, w261_51, x261_52, w261_55, w261_56, w261_57, w261_60, w261_61, w261_64, w261_65, rt261, rt261, aw_st, ai_cls, ai_len, ai_p, ai_sw, ai_m, ai_c, ai_at, ai_isI, ai_isJ, ai_isA, ai_ld, ai_1i, ai_2i, ai_2l, ai_cn, ai_j, ai_set, ai_set2, ai_nl, ai_rs, ai_sm, Value.category, hk0, hk1, lits, litb, litm, litm2, List.getElem?_cons_zero, List.getElem?_cons_succ, or_n0, bit_r, fi0, fi1, fi2, fi3, nI_toInt, nI_add, pk_mul, nI_leI, nI_ltI, nI_eq, pk_sub, ib_nI, nI_clamp, va_up_self, va_up_ne, va_up_up, va_up_comm, pk_us, pk_un, upd_up, updL_up, pk_uLs, pk_uLn, b01_1, b01_0, b01_1s, b01_0s, or_b, mm200, mu200, mm201, mu201, mm202, mu202, mm203, mu203, mm204, mu204, mm205, mu205, mm206, mu206, mm207, mu207, mm208, mu208, mm209, mu209, mm210, mu210, mm211, mu211, mm212, mu212, mm213, mu213, mm214, mu214, mm215, mu215, mm216, mu216, mm217, mu217, mm218, mu218, mm219, mu219, mm220, mu220, mm221, mu221, mm222, mu222, mm223, mu223, mm224, mu224, mm225, mu225, mm226, mu226, mm227, mu227, mm228, mu228, mm229, mu229, mm230, mu230, a, b, c, e, b01] <;> simp_all
end RTK
