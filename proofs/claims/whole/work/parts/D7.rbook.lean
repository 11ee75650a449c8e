/-! BOOKED: the reference -/
section RBT
variable {G : ai_G} {d sl : Nat} {Q : List Value → Nat → Nat → ai_M → Prop} {Y : mY} {X : mX}
def rtoldF (X : mX) (x : Int32) : Int32 := if X 199 54 = nI 0 then mi1 else if inI (nI 0) (nI 3) x = true then X 224 (iN x) else mi1
theorem in03 {x : Int32} (h : inI (nI 0) (nI 3) x = true) : ∃ q, q < 4 ∧ x = nI q := by
  have := (pI_nat (P := 4) (by omega) (x := x)).mp (by
    unfold pI
    unfold inI at h
    have h := of_decide_eq_true h
    exact decide_eq_true ⟨h.1, Int32.lt_of_le_of_lt h.2 (by decide)⟩)
  exact this
set_option maxHeartbeats 4000000 in
theorem rbooked_eq {x : Int32} : aw ET G (d + 1) 275 0 [some (.ref 199), some (.int x)] [] 231 sl (mem X Y) Q = Q [.int (rtoldF X x)] 231 sl (mem (tz X) Y) := by
  unfold rtoldF tz
  by_cases h : X 199 54 = nI 0
  · simp (disch := omega) [w275_0, w275_1, x275_2, w275_5, x275_6, w275_9, w275_12, w275_13, w275_14, x275_15, w275_18, w275_21, x275_22, w275_25, w275_26, w275_27, w275_30, w275_31, rt275, aw_st, ai_cls, ai_len, ai_p, ai_sw, ai_m, ai_c, ai_at, ai_isI, ai_isJ, ai_isA, ai_ld, ai_1i, ai_2i, ai_2l, ai_cn, ai_j, ai_set, ai_set2, ai_nl, ai_rs, ai_sm, Value.category, hk0, hk1, lits, litb, litm, litm2, List.getElem?_cons_zero, List.getElem?_cons_succ, or_n0, bit_r, fi0, fi1, fi2, fi3, nI_toInt, nI_add, pk_mul, nI_leI, nI_ltI, nI_eq, pk_sub, ib_nI, nI_clamp, va_up_self, va_up_ne, va_up_up, va_up_comm, pk_us, pk_un, upd_up, updL_up, pk_uLs, pk_uLn, b01_1, b01_0, b01_1s, b01_0s, or_b, mm200, mu200, mm201, mu201, mm202, mu202, mm203, mu203, mm204, mu204, mm205, mu205, mm206, mu206, mm207, mu207, mm208, mu208, mm209, mu209, mm210, mu210, mm211, mu211, mm212, mu212, mm213, mu213, mm214, mu214, mm215, mu215, mm216, mu216, mm217, mu217, mm218, mu218, mm219, mu219, mm220, mu220, mm221, mu221, mm222, mu222, mm223, mu223, mm224, mu224, mm225, mu225, mm226, mu226, mm227, mu227, mm228, mu228, mm229, mu229, mm230, mu230, h]
  · cases c : inI (nI 0) (nI 3) x
    · simp (disch := omega) [w275_0, w275_1, x275_2, w275_5, x275_6, w275_9, w275_12, w275_13, w275_14, x275_15, w275_18, w275_21, x275_22, w275_25, w275_26, w275_27, w275_30, w275_31, rt275, aw_st, ai_cls, ai_len, ai_p, ai_sw, ai_m, ai_c, ai_at, ai_isI, ai_isJ, ai_isA, ai_ld, ai_1i, ai_2i, ai_2l, ai_cn, ai_j, ai_set, ai_set2, ai_nl, ai_rs, ai_sm, Value.category, hk0, hk1, lits, litb, litm, litm2, List.getElem?_cons_zero, List.getElem?_cons_succ, or_n0, bit_r, fi0, fi1, fi2, fi3, nI_toInt, nI_add, pk_mul, nI_leI, nI_ltI, nI_eq, pk_sub, ib_nI, nI_clamp, va_up_self, va_up_ne, va_up_up, va_up_comm, pk_us, pk_un, upd_up, updL_up, pk_uLs, pk_uLn, b01_1, b01_0, b01_1s, b01_0s, or_b, mm200, mu200, mm201, mu201, mm202, mu202, mm203, mu203, mm204, mu204, mm205, mu205, mm206, mu206, mm207, mu207, mm208, mu208, mm209, mu209, mm210, mu210, mm211, mu211, mm212, mu212, mm213, mu213, mm214, mu214, mm215, mu215, mm216, mu216, mm217, mu217, mm218, mu218, mm219, mu219, mm220, mu220, mm221, mu221, mm222, mu222, mm223, mu223, mm224, mu224, mm225, mu225, mm226, mu226, mm227, mu227, mm228, mu228, mm229, mu229, mm230, mu230, h, isIn_eq, c]
    · obtain ⟨q, hq, rfl⟩ := in03 c
      simp (disch := omega) [w275_0, w275_1, x275_2, w275_5, x275_6, w275_9, w275_12, w275_13, w275_14, x275_15, w275_18, w275_21, x275_22, w275_25, w275_26, w275_27, w275_30, w275_31, rt275, aw_st, ai_cls, ai_len, ai_p, ai_sw, ai_m, ai_c, ai_at, ai_isI, ai_isJ, ai_isA, ai_ld, ai_1i, ai_2i, ai_2l, ai_cn, ai_j, ai_set, ai_set2, ai_nl, ai_rs, ai_sm, Value.category, hk0, hk1, lits, litb, litm, litm2, List.getElem?_cons_zero, List.getElem?_cons_succ, or_n0, bit_r, fi0, fi1, fi2, fi3, nI_toInt, nI_add, pk_mul, nI_leI, nI_ltI, nI_eq, pk_sub, ib_nI, nI_clamp, va_up_self, va_up_ne, va_up_up, va_up_comm, pk_us, pk_un, upd_up, updL_up, pk_uLs, pk_uLn, b01_1, b01_0, b01_1s, b01_0s, or_b, mm200, mu200, mm201, mu201, mm202, mu202, mm203, mu203, mm204, mu204, mm205, mu205, mm206, mu206, mm207, mu207, mm208, mu208, mm209, mu209, mm210, mu210, mm211, mu211, mm212, mu212, mm213, mu213, mm214, mu214, mm215, mu215, mm216, mu216, mm217, mu217, mm218, mu218, mm219, mu219, mm220, mu220, mm221, mu221, mm222, mu222, mm223, mu223, mm224, mu224, mm225, mu225, mm226, mu226, mm227, mu227, mm228, mu228, mm229, mu229, mm230, mu230, h, isIn_eq, c, mm224, iN_nI]
/-- both remember the same -/
theorem told_same {F : Nat → Int32} {r : LR} {x : Int32} (h5 : X 199 54 = F 5) (h : F 5 = nI 0 ∨ (bkT F r ∧ bk4 (X 224) r)) : toldF F x = rtoldF X x := by
  unfold toldF rtoldF
  rw [h5]
  rcases h with h | ⟨⟨a, b, c, e, f⟩, ⟨b', c', e', f'⟩⟩
  · rw [if_pos h, if_pos h]
  · have hf : ¬ F 5 = nI 0 := by rw [a]; decide
    rw [if_neg hf, if_neg hf]
    cases q : inI (nI 0) (nI 3) x
    · have : ∀ j, j < 4 → ¬ x = nI j := fun j hj e => by
        subst e
        rcases (show j = 0 ∨ j = 1 ∨ j = 2 ∨ j = 3 by omega) with rfl | rfl | rfl | rfl <;> revert q <;> decide
      rw [if_neg (this 0 (by omega)), if_neg (this 1 (by omega)), if_neg (this 2 (by omega)), if_neg (this 3 (by omega))]
      simp
    · obtain ⟨j, hj, rfl⟩ := in03 q
      rw [if_pos rfl, iN_nI (by omega)]
      rcases (show j = 0 ∨ j = 1 ∨ j = 2 ∨ j = 3 by omega) with rfl | rfl | rfl | rfl
      · rw [if_pos rfl, b, b']
      · rw [if_neg (by decide), if_pos rfl, c, c']
      · rw [if_neg (by decide), if_neg (by decide), if_pos rfl, e, e']
      · rw [if_neg (by decide), if_neg (by decide), if_neg (by decide), if_pos rfl, f, f']
end RBT
