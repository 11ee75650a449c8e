/-! TOKENS: what the class's Reader hands on -/
section TKF
variable {G : ai_G} {d sl : Nat} {Q : List Value → Nat → Nat → ai_M → Prop} {Y : mY} {X : mX} {t : Nat → Nat} {n lim i p : Nat} {f : Nat → Int32} {g : Nat → Int64} {flt : Int32}
theorem RDc_flt (h : RDc t n lim i f g flt) (x : Int32) : RDc t n lim i (upd f 9 x) g x := by
  obtain ⟨a0, a1, a2, a3, a4, a5, a8, a9, a7, a6⟩ := h
  exact ⟨by simp [upd, a0], by simp [upd, a1], by simp [upd, a2], by simp [upd, a3], by simp [upd, a4], by simp [upd, a5], by simp [upd, a8], by simp [upd], a7, fun h => by rw [pk_un (by omega)]; exact a6 h⟩
theorem tK_lt (hT : TB8 (X 1) t) (hn : n ≤ 940) (hi : i ≤ n) : tK t n lim i < 256 := by
  have hp := skp_le (t := t) hi
  unfold tK
  split
  · split <;> omega
  · rename_i c
    split
    · unfold rK; split
      · omega
      · split <;> omega
    · split
      · exact (hT (skp t n i) (by omega)).1
      · omega
theorem tN_lt (h : tK t n lim i = 3) (hi : i ≤ n) : tN t n i < 1000 := by
  unfold tK at h
  split at h
  · split at h <;> omega
  · split at h
    · rename_i c ad
      unfold rK at h
      split at h
      · omega
      · split at h
        · rename_i e
          have hs := cAD t (skp t n i) (tE t n i)
          have := (F10_nat (t := t) (p := skp t n i) (tE t n i) e.1 (by omega) (fun j hj => by
            have h1 := cAl_0 (t := t) (p := skp t n i) _ e.1 j hj
            have h2 := rn_AD t _ _ j hj
            unfold isAD at h2
            rw [Bool.or_eq_true] at h2
            rcases h2 with h2 | h2
            · exact absurd h2 h1
            · unfold isDg at h2; simpa using h2)).2
          have h7 : 10 ^ tE t n i ≤ 10 ^ 3 := Nat.pow_le_pow_right (by omega) (by omega)
          unfold tN tW
          omega
        · omega
    · split at h
      · rename_i e
        rw [h] at e
        exact absurd e (by decide)
      · omega
/-- a NAME stands there -/
def isNm (t : Nat → Nat) (n lim i : Nat) : Bool := decide (tK t n lim i = 2) && decide (tY t n lim i = 21)
theorem yI_mi1 {j : Nat} : (yI j = mi1) = (21 ≤ j) := by
  apply propext
  unfold yI
  by_cases h : j < 21
  · rw [if_pos h]
    exact ⟨fun e => absurd e (nI_mi1 (by omega)), fun e => by omega⟩
  · rw [if_neg h]
    exact ⟨fun _ => by omega, fun _ => rfl⟩
theorem yI_nI {j c : Nat} (hc : c < 21) : (yI j = nI c) = (j = c) := by
  apply propext
  unfold yI
  by_cases h : j < 21
  · rw [if_pos h, nI_eq (by omega) (by omega)]
  · rw [if_neg h]
    exact ⟨fun e => absurd e (mi1_nI (by omega)), fun e => by omega⟩
theorem refuse_eq {x : Int32} : aw ET G d 39 0 [some (.ref 2), some (.int x)] [] 231 sl (mem (va_up X 2 f) Y) Q = Q [.int mi1] 231 sl (mem (va_up X 2 (upd f 9 x)) Y) := by
  simp (disch := omega) [w39_0, w39_1, x39_2, w39_5, w39_6, rt39, aw_st, ai_cls, ai_len, ai_p, ai_sw, ai_m, ai_c, ai_at, ai_isI, ai_isJ, ai_isA, ai_ld, ai_1i, ai_2i, ai_2l, ai_cn, ai_j, ai_set, ai_set2, ai_nl, ai_rs, ai_sm, Value.category, hk0, hk1, lits, litb, litm, litm2, List.getElem?_cons_zero, List.getElem?_cons_succ, or_n0, bit_r, fi0, fi1, fi2, fi3, nI_toInt, nI_add, pk_mul, nI_leI, nI_ltI, nI_eq, pk_sub, ib_nI, nI_clamp, va_up_self, va_up_ne, va_up_up, va_up_comm, pk_us, pk_un, upd_up, updL_up, pk_uLs, pk_uLn, b01_1, b01_0, b01_1s, b01_0s, or_b]
theorem refused_eq {x : Int32} : aw ET G d 33 0 [some (.ref 2), some (.int x)] [] 231 sl (mem (va_up X 2 f) Y) Q = Q [.int (nI 0)] 231 sl (mem (va_up X 2 (upd f 9 x)) Y) := by
  simp (disch := omega) [w33_0, w33_1, x33_2, w33_5, w33_6, rt33, aw_st, ai_cls, ai_len, ai_p, ai_sw, ai_m, ai_c, ai_at, ai_isI, ai_isJ, ai_isA, ai_ld, ai_1i, ai_2i, ai_2l, ai_cn, ai_j, ai_set, ai_set2, ai_nl, ai_rs, ai_sm, Value.category, hk0, hk1, lits, litb, litm, litm2, List.getElem?_cons_zero, List.getElem?_cons_succ, or_n0, bit_r, fi0, fi1, fi2, fi3, nI_toInt, nI_add, pk_mul, nI_leI, nI_ltI, nI_eq, pk_sub, ib_nI, nI_clamp, va_up_self, va_up_ne, va_up_up, va_up_comm, pk_us, pk_un, upd_up, updL_up, pk_uLs, pk_uLn, b01_1, b01_0, b01_1s, b01_0s, or_b]
theorem isName_eq (h : RDc t n lim i f g flt) (hT : TB8 (X 1) t) (hn : n ≤ 940) (hi : i ≤ n) : aw ET G d 35 0 [some (.ref 2)] [] 231 sl (mem (va_up X 2 f) Y) Q = Q [.int (b01 (isNm t n lim i = true))] 231 sl (mem (va_up X 2 f) Y) := by
  obtain ⟨a0, a1, a2, a3, a4, a5, a8, a9, a7, a6⟩ := h
  have hk := tK_lt (lim := lim) hT hn hi
  have hy := tY_le (t := t) (n := n) (lim := lim) (i := i)
  unfold isNm
  by_cases e : tK t n lim i = 2
  · by_cases e2 : tY t n lim i = 21
    · have q : yI 21 = mi1 := rfl
      simp (disch := omega) [w35_0, x35_1_2, w35_4, w35_5, w35_8, x35_9_2, w35_12, w35_13, w35_16, w35_17, w35_20, w35_21, rt35, aw_st, ai_cls, ai_len, ai_p, ai_sw, ai_m, ai_c, ai_at, ai_isI, ai_isJ, ai_isA, ai_ld, ai_1i, ai_2i, ai_2l, ai_cn, ai_j, ai_set, ai_set2, ai_nl, ai_rs, ai_sm, Value.category, hk0, hk1, lits, litb, litm, litm2, List.getElem?_cons_zero, List.getElem?_cons_succ, or_n0, bit_r, fi0, fi1, fi2, fi3, nI_toInt, nI_add, pk_mul, nI_leI, nI_ltI, nI_eq, pk_sub, ib_nI, nI_clamp, va_up_self, va_up_ne, va_up_up, va_up_comm, pk_us, pk_un, upd_up, updL_up, pk_uLs, pk_uLn, b01_1, b01_0, b01_1s, b01_0s, or_b, a4, a8, e, e2, q, b01]
    · have q : ¬ yI (tY t n lim i) = mi1 := by rw [yI_mi1]; omega
      simp (disch := omega) [w35_0, x35_1_2, w35_4, w35_5, w35_8, x35_9_2, w35_12, w35_13, w35_16, w35_17, w35_20, w35_21, rt35, aw_st, ai_cls, ai_len, ai_p, ai_sw, ai_m, ai_c, ai_at, ai_isI, ai_isJ, ai_isA, ai_ld, ai_1i, ai_2i, ai_2l, ai_cn, ai_j, ai_set, ai_set2, ai_nl, ai_rs, ai_sm, Value.category, hk0, hk1, lits, litb, litm, litm2, List.getElem?_cons_zero, List.getElem?_cons_succ, or_n0, bit_r, fi0, fi1, fi2, fi3, nI_toInt, nI_add, pk_mul, nI_leI, nI_ltI, nI_eq, pk_sub, ib_nI, nI_clamp, va_up_self, va_up_ne, va_up_up, va_up_comm, pk_us, pk_un, upd_up, updL_up, pk_uLs, pk_uLn, b01_1, b01_0, b01_1s, b01_0s, or_b, a4, a8, e, e2, q, b01]
  · simp (disch := omega) [w35_0, x35_1_2, w35_4, w35_5, w35_8, x35_9_2, w35_12, w35_13, w35_16, w35_17, w35_20, w35_21, rt35, aw_st, ai_cls, ai_len, ai_p, ai_sw, ai_m, ai_c, ai_at, ai_isI, ai_isJ, ai_isA, ai_ld, ai_1i, ai_2i, ai_2l, ai_cn, ai_j, ai_set, ai_set2, ai_nl, ai_rs, ai_sm, Value.category, hk0, hk1, lits, litb, litm, litm2, List.getElem?_cons_zero, List.getElem?_cons_succ, or_n0, bit_r, fi0, fi1, fi2, fi3, nI_toInt, nI_add, pk_mul, nI_leI, nI_ltI, nI_eq, pk_sub, ib_nI, nI_clamp, va_up_self, va_up_ne, va_up_up, va_up_comm, pk_us, pk_un, upd_up, updL_up, pk_uLs, pk_uLn, b01_1, b01_0, b01_1s, b01_0s, or_b, a4, a8, e, b01]
theorem isNm_wd (h : isNm t n lim i = true) (hT : TB8 (X 1) t) (hn : n ≤ 940) (hi : i ≤ n) : tK t n lim i = 2 ∧ tY t n lim i = 21 ∧ WD (tW t n i) := by
  unfold isNm at h
  simp only [Bool.and_eq_true, decide_eq_true_eq] at h
  exact ⟨h.1, h.2, tW_wd h.1 hi (fun j hj => (hT j (by omega)).1)⟩
set_option maxHeartbeats 4000000 in
theorem take_wp {c : Nat} (h : RDc t n lim i f g flt) (hT : TB8 (X 1) t) (hn : n ≤ 940) (hl : lim ≤ 940) (hi : i ≤ n) (hc : c < 256) (hQ1 : ¬ tK t n lim i = c → ∀ f', RDc t n lim i f' g 1 → Q [.int (nI 0)] 231 sl (mem (va_up X 2 f') (va_up Y 2 g))) (hQ2 : tK t n lim i = c → ∀ f' g', RDc t n lim (tA t n lim i) f' g' flt → Q [.int (nI 1)] 231 sl (mem (va_up X 2 f') (va_up Y 2 g'))) : aw ET G (d + 3) 50 0 [some (.ref 2), some (.int (nI c))] [] 231 sl (mem (va_up X 2 f) (va_up Y 2 g)) Q := by
  have hk := tK_lt (lim := lim) hT hn hi
  have h' := h
  obtain ⟨a0, a1, a2, a3, a4, a5, a8, a9, a7, a6⟩ := h
  by_cases e : tK t n lim i = c
  · simp (disch := omega) [w50_0, x50_1_2, w50_4, w50_5, w50_8, w50_9, x50_10_2, w50_13, w50_14, x50_15_2, w50_18, w50_19, rt50, aw_st, ai_cls, ai_len, ai_p, ai_sw, ai_m, ai_c, ai_at, ai_isI, ai_isJ, ai_isA, ai_ld, ai_1i, ai_2i, ai_2l, ai_cn, ai_j, ai_set, ai_set2, ai_nl, ai_rs, ai_sm, Value.category, hk0, hk1, lits, litb, litm, litm2, List.getElem?_cons_zero, List.getElem?_cons_succ, or_n0, bit_r, fi0, fi1, fi2, fi3, nI_toInt, nI_add, pk_mul, nI_leI, nI_ltI, nI_eq, pk_sub, ib_nI, nI_clamp, va_up_self, va_up_ne, va_up_up, va_up_comm, pk_us, pk_un, upd_up, updL_up, pk_uLs, pk_uLn, b01_1, b01_0, b01_1s, b01_0s, or_b, a4, e]
    refine step_wp (flt := flt) a0 a1 a2 a3 a9 hT hn hl (tA_le hi) (fun f' g' r => ?_)
    have := hQ2 e f' g' r
    simp (disch := omega) [w50_0, x50_1_2, w50_4, w50_5, w50_8, w50_9, x50_10_2, w50_13, w50_14, x50_15_2, w50_18, w50_19, rt50, aw_st, ai_cls, ai_len, ai_p, ai_sw, ai_m, ai_c, ai_at, ai_isI, ai_isJ, ai_isA, ai_ld, ai_1i, ai_2i, ai_2l, ai_cn, ai_j, ai_set, ai_set2, ai_nl, ai_rs, ai_sm, Value.category, hk0, hk1, lits, litb, litm, litm2, List.getElem?_cons_zero, List.getElem?_cons_succ, or_n0, bit_r, fi0, fi1, fi2, fi3, nI_toInt, nI_add, pk_mul, nI_leI, nI_ltI, nI_eq, pk_sub, ib_nI, nI_clamp, va_up_self, va_up_ne, va_up_up, va_up_comm, pk_us, pk_un, upd_up, updL_up, pk_uLs, pk_uLn, b01_1, b01_0, b01_1s, b01_0s, or_b]
    exact this
  · have := hQ1 e _ (RDc_flt h' 1)
    simp (disch := omega) [w50_0, x50_1_2, w50_4, w50_5, w50_8, w50_9, x50_10_2, w50_13, w50_14, x50_15_2, w50_18, w50_19, rt50, aw_st, ai_cls, ai_len, ai_p, ai_sw, ai_m, ai_c, ai_at, ai_isI, ai_isJ, ai_isA, ai_ld, ai_1i, ai_2i, ai_2l, ai_cn, ai_j, ai_set, ai_set2, ai_nl, ai_rs, ai_sm, Value.category, hk0, hk1, lits, litb, litm, litm2, List.getElem?_cons_zero, List.getElem?_cons_succ, or_n0, bit_r, fi0, fi1, fi2, fi3, nI_toInt, nI_add, pk_mul, nI_leI, nI_ltI, nI_eq, pk_sub, ib_nI, nI_clamp, va_up_self, va_up_ne, va_up_up, va_up_comm, pk_us, pk_un, upd_up, updL_up, pk_uLs, pk_uLn, b01_1, b01_0, b01_1s, b01_0s, or_b, a4, e, refused_eq]
    exact this
set_option maxHeartbeats 4000000 in
theorem takeNumber_wp {lo hi : Nat} (h : RDc t n lim i f g flt) (hT : TB8 (X 1) t) (hn : n ≤ 940) (hl : lim ≤ 940) (hi' : i ≤ n) (h1 : lo < 1000) (h2 : hi < 1000) (hQ1 : ¬ tK t n lim i = 3 → ∀ f', RDc t n lim i f' g 1 → Q [.int mi1] 231 sl (mem (va_up X 2 f') (va_up Y 2 g))) (hQ2 : tK t n lim i = 3 → ¬ (lo ≤ tN t n i ∧ tN t n i ≤ hi) → ∀ f', RDc t n lim i f' g 2 → Q [.int mi1] 231 sl (mem (va_up X 2 f') (va_up Y 2 g))) (hQ3 : tK t n lim i = 3 → lo ≤ tN t n i → tN t n i ≤ hi → ∀ f' g', RDc t n lim (tA t n lim i) f' g' flt → Q [.int (nI (tN t n i))] 231 sl (mem (va_up X 2 f') (va_up Y 2 g'))) : aw ET G (d + 3) 38 0 [some (.ref 2), some (.int (nI lo)), some (.int (nI hi)), none] [] 231 sl (mem (va_up X 2 f) (va_up Y 2 g)) Q := by
  have hk := tK_lt (lim := lim) hT hn hi'
  have h' := h
  obtain ⟨a0, a1, a2, a3, a4, a5, a8, a9, a7, a6⟩ := h
  by_cases e : tK t n lim i = 3
  · have hN := tN_lt e hi'
    have a6' := a6 e
    by_cases c1 : tN t n i < lo
    · have := hQ2 e (by omega) _ (RDc_flt h' 2)
      simp (disch := omega) [w38_0, x38_1_2, w38_4, w38_5, w38_8, w38_9, x38_10_2, w38_13, w38_14, x38_15_2, w38_18, w38_19, w38_22, x38_23_2, w38_26, w38_27, w38_30, w38_31, x38_32_2, w38_35, w38_36, x38_37_2, w38_40, w38_41, x38_42_2, w38_45, w38_46, rt38, aw_st, ai_cls, ai_len, ai_p, ai_sw, ai_m, ai_c, ai_at, ai_isI, ai_isJ, ai_isA, ai_ld, ai_1i, ai_2i, ai_2l, ai_cn, ai_j, ai_set, ai_set2, ai_nl, ai_rs, ai_sm, Value.category, hk0, hk1, lits, litb, litm, litm2, List.getElem?_cons_zero, List.getElem?_cons_succ, or_n0, bit_r, fi0, fi1, fi2, fi3, nI_toInt, nI_add, pk_mul, nI_leI, nI_ltI, nI_eq, pk_sub, ib_nI, nI_clamp, va_up_self, va_up_ne, va_up_up, va_up_comm, pk_us, pk_un, upd_up, updL_up, pk_uLs, pk_uLn, b01_1, b01_0, b01_1s, b01_0s, or_b, a4, a6', e, c1, refuse_eq]
      exact this
    · by_cases c2 : hi < tN t n i
      · have := hQ2 e (by omega) _ (RDc_flt h' 2)
        simp (disch := omega) [w38_0, x38_1_2, w38_4, w38_5, w38_8, w38_9, x38_10_2, w38_13, w38_14, x38_15_2, w38_18, w38_19, w38_22, x38_23_2, w38_26, w38_27, w38_30, w38_31, x38_32_2, w38_35, w38_36, x38_37_2, w38_40, w38_41, x38_42_2, w38_45, w38_46, rt38, aw_st, ai_cls, ai_len, ai_p, ai_sw, ai_m, ai_c, ai_at, ai_isI, ai_isJ, ai_isA, ai_ld, ai_1i, ai_2i, ai_2l, ai_cn, ai_j, ai_set, ai_set2, ai_nl, ai_rs, ai_sm, Value.category, hk0, hk1, lits, litb, litm, litm2, List.getElem?_cons_zero, List.getElem?_cons_succ, or_n0, bit_r, fi0, fi1, fi2, fi3, nI_toInt, nI_add, pk_mul, nI_leI, nI_ltI, nI_eq, pk_sub, ib_nI, nI_clamp, va_up_self, va_up_ne, va_up_up, va_up_comm, pk_us, pk_un, upd_up, updL_up, pk_uLs, pk_uLn, b01_1, b01_0, b01_1s, b01_0s, or_b, a4, a6', e, c1, show ¬ tN t n i ≤ hi by omega, refuse_eq]
        exact this
      · simp (disch := omega) [w38_0, x38_1_2, w38_4, w38_5, w38_8, w38_9, x38_10_2, w38_13, w38_14, x38_15_2, w38_18, w38_19, w38_22, x38_23_2, w38_26, w38_27, w38_30, w38_31, x38_32_2, w38_35, w38_36, x38_37_2, w38_40, w38_41, x38_42_2, w38_45, w38_46, rt38, aw_st, ai_cls, ai_len, ai_p, ai_sw, ai_m, ai_c, ai_at, ai_isI, ai_isJ, ai_isA, ai_ld, ai_1i, ai_2i, ai_2l, ai_cn, ai_j, ai_set, ai_set2, ai_nl, ai_rs, ai_sm, Value.category, hk0, hk1, lits, litb, litm, litm2, List.getElem?_cons_zero, List.getElem?_cons_succ, or_n0, bit_r, fi0, fi1, fi2, fi3, nI_toInt, nI_add, pk_mul, nI_leI, nI_ltI, nI_eq, pk_sub, ib_nI, nI_clamp, va_up_self, va_up_ne, va_up_up, va_up_comm, pk_us, pk_un, upd_up, updL_up, pk_uLs, pk_uLn, b01_1, b01_0, b01_1s, b01_0s, or_b, a4, a6', e, c1, show tN t n i ≤ hi by omega]
        refine step_wp (flt := flt) a0 a1 a2 a3 a9 hT hn hl (tA_le hi') (fun f' g' r => ?_)
        have := hQ3 e (by omega) (by omega) f' g' r
        simp (disch := omega) [w38_0, x38_1_2, w38_4, w38_5, w38_8, w38_9, x38_10_2, w38_13, w38_14, x38_15_2, w38_18, w38_19, w38_22, x38_23_2, w38_26, w38_27, w38_30, w38_31, x38_32_2, w38_35, w38_36, x38_37_2, w38_40, w38_41, x38_42_2, w38_45, w38_46, rt38, aw_st, ai_cls, ai_len, ai_p, ai_sw, ai_m, ai_c, ai_at, ai_isI, ai_isJ, ai_isA, ai_ld, ai_1i, ai_2i, ai_2l, ai_cn, ai_j, ai_set, ai_set2, ai_nl, ai_rs, ai_sm, Value.category, hk0, hk1, lits, litb, litm, litm2, List.getElem?_cons_zero, List.getElem?_cons_succ, or_n0, bit_r, fi0, fi1, fi2, fi3, nI_toInt, nI_add, pk_mul, nI_leI, nI_ltI, nI_eq, pk_sub, ib_nI, nI_clamp, va_up_self, va_up_ne, va_up_up, va_up_comm, pk_us, pk_un, upd_up, updL_up, pk_uLs, pk_uLn, b01_1, b01_0, b01_1s, b01_0s, or_b]
        exact this
  · have := hQ1 e _ (RDc_flt h' 1)
    simp (disch := omega) [w38_0, x38_1_2, w38_4, w38_5, w38_8, w38_9, x38_10_2, w38_13, w38_14, x38_15_2, w38_18, w38_19, w38_22, x38_23_2, w38_26, w38_27, w38_30, w38_31, x38_32_2, w38_35, w38_36, x38_37_2, w38_40, w38_41, x38_42_2, w38_45, w38_46, rt38, aw_st, ai_cls, ai_len, ai_p, ai_sw, ai_m, ai_c, ai_at, ai_isI, ai_isJ, ai_isA, ai_ld, ai_1i, ai_2i, ai_2l, ai_cn, ai_j, ai_set, ai_set2, ai_nl, ai_rs, ai_sm, Value.category, hk0, hk1, lits, litb, litm, litm2, List.getElem?_cons_zero, List.getElem?_cons_succ, or_n0, bit_r, fi0, fi1, fi2, fi3, nI_toInt, nI_add, pk_mul, nI_leI, nI_ltI, nI_eq, pk_sub, ib_nI, nI_clamp, va_up_self, va_up_ne, va_up_up, va_up_comm, pk_us, pk_un, upd_up, updL_up, pk_uLs, pk_uLn, b01_1, b01_0, b01_1s, b01_0s, or_b, a4, e, refuse_eq]
    exact this
/-- the first of those called so -/
def fnd (nm : Nat → List Nat) (w : List Nat) : Nat → Nat → Option Nat
  | 0, _ => none
  | r + 1, k => if nm k = w then some k else fnd nm w r (k + 1)
def oI : Option Nat → Int32
  | none => mi1
  | some k => nI k
theorem fnd_lt {nm : Nat → List Nat} {w : List Nat} : ∀ (r k j : Nat), fnd nm w r k = some j → k ≤ j ∧ j < k + r := by
  intro r
  induction r with
  | zero => intro k j h; cases h
  | succ r ih =>
    intro k j h
    unfold fnd at h
    split at h
    · cases h; omega
    · have := ih _ _ h; omega
theorem v5_lN {w w' : List Nat} (h : WD w) (h' : WD w') : (lN (v5 w) = lN (v5 w')) = (w = w') := by
  have b := v5_lt h
  have b' := v5_lt h'
  rw [propext (pk_lEQ (by omega) (by omega))]
  exact propext ⟨fun e => v5_inj h h' e, fun e => by rw [e]⟩
set_option maxHeartbeats 4000000 in
theorem called_loop_6 {nm : Nat → List Nat} {w : List Nat} {P : Nat} (hP : P ≤ 8) (hk : X 6 7 = nI P) (hw : WD w) (hn : ∀ q, q < P → Y 7 q = lN (v5 (nm q)) ∧ WD (nm q)) : ∀ (r k : Nat), k + r = P → aw ET G d 36 2 [some (.ref 6), some (.long (lN (v5 w))), none, some (.int (nI k))] [] 231 sl (mem X Y) Q = Q [.int (oI (fnd nm w r k))] 231 sl (mem X Y) := by
  intro r
  induction r with
  | zero =>
    intro k hk'
    simp (disch := omega) [w36_0, w36_1, w36_2, w36_3, x36_4_6, w36_7, w36_10, x36_11_6, w36_14, w36_15, w36_16, w36_17, w36_18, w36_21, w36_22, w36_23, w36_26, w36_29, w36_30, rt36, aw_st, ai_cls, ai_len, ai_p, ai_sw, ai_m, ai_c, ai_at, ai_isI, ai_isJ, ai_isA, ai_ld, ai_1i, ai_2i, ai_2l, ai_cn, ai_j, ai_set, ai_set2, ai_nl, ai_rs, ai_sm, Value.category, hk0, hk1, lits, litb, litm, litm2, List.getElem?_cons_zero, List.getElem?_cons_succ, or_n0, bit_r, fi0, fi1, fi2, fi3, nI_toInt, nI_add, pk_mul, nI_leI, nI_ltI, nI_eq, pk_sub, ib_nI, nI_clamp, va_up_self, va_up_ne, va_up_up, va_up_comm, pk_us, pk_un, upd_up, updL_up, pk_uLs, pk_uLn, b01_1, b01_0, b01_1s, b01_0s, or_b, hk, show P ≤ k by omega, fnd, oI]
  | succ r ih =>
    intro k hk'
    obtain ⟨e1, e2⟩ := hn k (by omega)
    have hc := v5_lN e2 hw
    rw [w36_2]
    unfold fnd
    by_cases c : nm k = w
    · simp (disch := omega) [w36_0, w36_1, w36_3, x36_4_6, w36_7, w36_10, x36_11_6, w36_14, w36_15, w36_16, w36_17, w36_18, w36_21, w36_22, w36_23, w36_26, w36_29, w36_30, rt36, aw_st, ai_cls, ai_len, ai_p, ai_sw, ai_m, ai_c, ai_at, ai_isI, ai_isJ, ai_isA, ai_ld, ai_1i, ai_2i, ai_2l, ai_cn, ai_j, ai_set, ai_set2, ai_nl, ai_rs, ai_sm, Value.category, hk0, hk1, lits, litb, litm, litm2, List.getElem?_cons_zero, List.getElem?_cons_succ, or_n0, bit_r, fi0, fi1, fi2, fi3, nI_toInt, nI_add, pk_mul, nI_leI, nI_ltI, nI_eq, pk_sub, ib_nI, nI_clamp, va_up_self, va_up_ne, va_up_up, va_up_comm, pk_us, pk_un, upd_up, updL_up, pk_uLs, pk_uLn, b01_1, b01_0, b01_1s, b01_0s, or_b, mm7, hk, show ¬ P ≤ k by omega, e1, lgc_eq, hc, c, oI]
    · have := ih (k + 1) (by omega)
      simp (disch := omega) [w36_0, w36_1, w36_3, x36_4_6, w36_7, w36_10, x36_11_6, w36_14, w36_15, w36_16, w36_17, w36_18, w36_21, w36_22, w36_23, w36_26, w36_29, w36_30, rt36, aw_st, ai_cls, ai_len, ai_p, ai_sw, ai_m, ai_c, ai_at, ai_isI, ai_isJ, ai_isA, ai_ld, ai_1i, ai_2i, ai_2l, ai_cn, ai_j, ai_set, ai_set2, ai_nl, ai_rs, ai_sm, Value.category, hk0, hk1, lits, litb, litm, litm2, List.getElem?_cons_zero, List.getElem?_cons_succ, or_n0, bit_r, fi0, fi1, fi2, fi3, nI_toInt, nI_add, pk_mul, nI_leI, nI_ltI, nI_eq, pk_sub, ib_nI, nI_clamp, va_up_self, va_up_ne, va_up_up, va_up_comm, pk_us, pk_un, upd_up, updL_up, pk_uLs, pk_uLn, b01_1, b01_0, b01_1s, b01_0s, or_b, mm7, hk, show ¬ P ≤ k by omega, e1, lgc_eq, hc, c]
      exact Iff.of_eq this
theorem called_eq_6 {nm : Nat → List Nat} {w : List Nat} {P : Nat} (hP : P ≤ 8) (hk : X 6 7 = nI P) (hw : WD w) (hn : ∀ q, q < P → Y 7 q = lN (v5 (nm q)) ∧ WD (nm q)) : aw ET G d 36 0 [some (.ref 6), some (.long (lN (v5 w))), none, none] [] 231 sl (mem X Y) Q = Q [.int (oI (fnd nm w P 0))] 231 sl (mem X Y) := by
  have := called_loop_6 (G := G) (d := d) (sl := sl) (Q := Q) hP hk hw hn P 0 (by omega)
  simp (disch := omega) [w36_0, w36_1, aw_st, ai_cls, ai_len, ai_p, ai_sw, ai_m, ai_c, ai_at, ai_isI, ai_isJ, ai_isA, ai_ld, ai_1i, ai_2i, ai_2l, ai_cn, ai_j, ai_set, ai_set2, ai_nl, ai_rs, ai_sm, Value.category, hk0, hk1, lits, litb, litm, litm2, List.getElem?_cons_zero, List.getElem?_cons_succ, or_n0, bit_r, fi0, fi1, fi2, fi3, nI_toInt, nI_add, pk_mul, nI_leI, nI_ltI, nI_eq, pk_sub, ib_nI, nI_clamp, va_up_self, va_up_ne, va_up_up, va_up_comm, pk_us, pk_un, upd_up, updL_up, pk_uLs, pk_uLn, b01_1, b01_0, b01_1s, b01_0s, or_b]
  exact Iff.of_eq this
set_option maxHeartbeats 4000000 in
theorem storied_loop_6 {nm : Nat → List Nat} {w : List Nat} {P : Nat} (hP : P ≤ 8) (hk : X 6 8 = nI P) (hw : WD w) (hn : ∀ q, q < P → Y 10 q = lN (v5 (nm q)) ∧ WD (nm q)) : ∀ (r k : Nat), k + r = P → aw ET G d 37 2 [some (.ref 6), some (.long (lN (v5 w))), none, some (.int (nI k))] [] 231 sl (mem X Y) Q = Q [.int (oI (fnd nm w r k))] 231 sl (mem X Y) := by
  intro r
  induction r with
  | zero =>
    intro k hk'
    simp (disch := omega) [w37_0, w37_1, w37_2, w37_3, x37_4_6, w37_7, w37_10, x37_11_6, w37_14, w37_15, w37_16, w37_17, w37_18, w37_21, w37_22, w37_23, w37_26, w37_29, w37_30, rt37, aw_st, ai_cls, ai_len, ai_p, ai_sw, ai_m, ai_c, ai_at, ai_isI, ai_isJ, ai_isA, ai_ld, ai_1i, ai_2i, ai_2l, ai_cn, ai_j, ai_set, ai_set2, ai_nl, ai_rs, ai_sm, Value.category, hk0, hk1, lits, litb, litm, litm2, List.getElem?_cons_zero, List.getElem?_cons_succ, or_n0, bit_r, fi0, fi1, fi2, fi3, nI_toInt, nI_add, pk_mul, nI_leI, nI_ltI, nI_eq, pk_sub, ib_nI, nI_clamp, va_up_self, va_up_ne, va_up_up, va_up_comm, pk_us, pk_un, upd_up, updL_up, pk_uLs, pk_uLn, b01_1, b01_0, b01_1s, b01_0s, or_b, hk, show P ≤ k by omega, fnd, oI]
  | succ r ih =>
    intro k hk'
    obtain ⟨e1, e2⟩ := hn k (by omega)
    have hc := v5_lN e2 hw
    rw [w37_2]
    unfold fnd
    by_cases c : nm k = w
    · simp (disch := omega) [w37_0, w37_1, w37_3, x37_4_6, w37_7, w37_10, x37_11_6, w37_14, w37_15, w37_16, w37_17, w37_18, w37_21, w37_22, w37_23, w37_26, w37_29, w37_30, rt37, aw_st, ai_cls, ai_len, ai_p, ai_sw, ai_m, ai_c, ai_at, ai_isI, ai_isJ, ai_isA, ai_ld, ai_1i, ai_2i, ai_2l, ai_cn, ai_j, ai_set, ai_set2, ai_nl, ai_rs, ai_sm, Value.category, hk0, hk1, lits, litb, litm, litm2, List.getElem?_cons_zero, List.getElem?_cons_succ, or_n0, bit_r, fi0, fi1, fi2, fi3, nI_toInt, nI_add, pk_mul, nI_leI, nI_ltI, nI_eq, pk_sub, ib_nI, nI_clamp, va_up_self, va_up_ne, va_up_up, va_up_comm, pk_us, pk_un, upd_up, updL_up, pk_uLs, pk_uLn, b01_1, b01_0, b01_1s, b01_0s, or_b, mm10, hk, show ¬ P ≤ k by omega, e1, lgc_eq, hc, c, oI]
    · have := ih (k + 1) (by omega)
      simp (disch := omega) [w37_0, w37_1, w37_3, x37_4_6, w37_7, w37_10, x37_11_6, w37_14, w37_15, w37_16, w37_17, w37_18, w37_21, w37_22, w37_23, w37_26, w37_29, w37_30, rt37, aw_st, ai_cls, ai_len, ai_p, ai_sw, ai_m, ai_c, ai_at, ai_isI, ai_isJ, ai_isA, ai_ld, ai_1i, ai_2i, ai_2l, ai_cn, ai_j, ai_set, ai_set2, ai_nl, ai_rs, ai_sm, Value.category, hk0, hk1, lits, litb, litm, litm2, List.getElem?_cons_zero, List.getElem?_cons_succ, or_n0, bit_r, fi0, fi1, fi2, fi3, nI_toInt, nI_add, pk_mul, nI_leI, nI_ltI, nI_eq, pk_sub, ib_nI, nI_clamp, va_up_self, va_up_ne, va_up_up, va_up_comm, pk_us, pk_un, upd_up, updL_up, pk_uLs, pk_uLn, b01_1, b01_0, b01_1s, b01_0s, or_b, mm10, hk, show ¬ P ≤ k by omega, e1, lgc_eq, hc, c]
      exact Iff.of_eq this
theorem storied_eq_6 {nm : Nat → List Nat} {w : List Nat} {P : Nat} (hP : P ≤ 8) (hk : X 6 8 = nI P) (hw : WD w) (hn : ∀ q, q < P → Y 10 q = lN (v5 (nm q)) ∧ WD (nm q)) : aw ET G d 37 0 [some (.ref 6), some (.long (lN (v5 w))), none, none] [] 231 sl (mem X Y) Q = Q [.int (oI (fnd nm w P 0))] 231 sl (mem X Y) := by
  have := storied_loop_6 (G := G) (d := d) (sl := sl) (Q := Q) hP hk hw hn P 0 (by omega)
  simp (disch := omega) [w37_0, w37_1, aw_st, ai_cls, ai_len, ai_p, ai_sw, ai_m, ai_c, ai_at, ai_isI, ai_isJ, ai_isA, ai_ld, ai_1i, ai_2i, ai_2l, ai_cn, ai_j, ai_set, ai_set2, ai_nl, ai_rs, ai_sm, Value.category, hk0, hk1, lits, litb, litm, litm2, List.getElem?_cons_zero, List.getElem?_cons_succ, or_n0, bit_r, fi0, fi1, fi2, fi3, nI_toInt, nI_add, pk_mul, nI_leI, nI_ltI, nI_eq, pk_sub, ib_nI, nI_clamp, va_up_self, va_up_ne, va_up_up, va_up_comm, pk_us, pk_un, upd_up, updL_up, pk_uLs, pk_uLn, b01_1, b01_0, b01_1s, b01_0s, or_b]
  exact Iff.of_eq this
set_option maxHeartbeats 4000000 in
theorem personHere_6 {nm : Nat → List Nat} {P : Nat} (h : RDc t n lim i f g flt) (hT : TB8 (X 1) t) (hn : n ≤ 940) (hi : i ≤ n) (hP : P ≤ 8) (hk : X 6 7 = nI P) (hm : ∀ q, q < P → Y 7 q = lN (v5 (nm q)) ∧ WD (nm q)) (hQ1 : isNm t n lim i = false → ∀ f', RDc t n lim i f' g 1 → Q [.int mi1] 231 sl (mem (va_up X 2 f') (va_up Y 2 g))) (hQ2 : isNm t n lim i = true → fnd nm (tW t n i) P 0 = none → ∀ f', RDc t n lim i f' g 3 → Q [.int mi1] 231 sl (mem (va_up X 2 f') (va_up Y 2 g))) (hQ3 : isNm t n lim i = true → ∀ k, fnd nm (tW t n i) P 0 = some k → k < P → Q [.int (nI k)] 231 sl (mem (va_up X 2 f) (va_up Y 2 g))) : aw ET G (d + 2) 42 0 [some (.ref 2), some (.ref 6), none] [] 231 sl (mem (va_up X 2 f) (va_up Y 2 g)) Q := by
  have hnm := fun (Q : List Value → Nat → Nat → ai_M → Prop) => isName_eq (G := G) (d := d + 1) (sl := sl) (Q := Q) (Y := va_up Y 2 g) h hT hn hi
  cases e : isNm t n lim i
  · have := hQ1 e _ (RDc_flt h 1)
    simp (disch := omega) [w42_0, x42_1_2, w42_4, w42_7, w42_8, x42_9_2, w42_12, w42_13, w42_14, x42_15_2, x42_18_6, w42_21, w42_22, w42_23, w42_24, w42_27, w42_28, x42_29_2, w42_32, w42_35, w42_36, rt42, aw_st, ai_cls, ai_len, ai_p, ai_sw, ai_m, ai_c, ai_at, ai_isI, ai_isJ, ai_isA, ai_ld, ai_1i, ai_2i, ai_2l, ai_cn, ai_j, ai_set, ai_set2, ai_nl, ai_rs, ai_sm, Value.category, hk0, hk1, lits, litb, litm, litm2, List.getElem?_cons_zero, List.getElem?_cons_succ, or_n0, bit_r, fi0, fi1, fi2, fi3, nI_toInt, nI_add, pk_mul, nI_leI, nI_ltI, nI_eq, pk_sub, ib_nI, nI_clamp, va_up_self, va_up_ne, va_up_up, va_up_comm, pk_us, pk_un, upd_up, updL_up, pk_uLs, pk_uLn, b01_1, b01_0, b01_1s, b01_0s, or_b, hnm, e, refuse_eq]
    exact this
  · obtain ⟨k2, ky, hwd⟩ := isNm_wd e hT hn hi
    have hg := h.2.2.2.2.2.2.2.2.1 k2
    have hcl := fun (Q : List Value → Nat → Nat → ai_M → Prop) => called_eq_6 (G := G) (d := d + 1) (sl := sl) (Q := Q) (X := va_up X 2 f) (Y := va_up Y 2 g) (nm := nm) (w := tW t n i) hP (by simpa [va_up] using hk) hwd (fun q hq => by simpa [va_up] using hm q hq)
    cases hf : fnd nm (tW t n i) P 0 with
    | none =>
      have := hQ2 e hf _ (RDc_flt h 3)
      simp (disch := omega) [w42_0, x42_1_2, w42_4, w42_7, w42_8, x42_9_2, w42_12, w42_13, w42_14, x42_15_2, x42_18_6, w42_21, w42_22, w42_23, w42_24, w42_27, w42_28, x42_29_2, w42_32, w42_35, w42_36, rt42, aw_st, ai_cls, ai_len, ai_p, ai_sw, ai_m, ai_c, ai_at, ai_isI, ai_isJ, ai_isA, ai_ld, ai_1i, ai_2i, ai_2l, ai_cn, ai_j, ai_set, ai_set2, ai_nl, ai_rs, ai_sm, Value.category, hk0, hk1, lits, litb, litm, litm2, List.getElem?_cons_zero, List.getElem?_cons_succ, or_n0, bit_r, fi0, fi1, fi2, fi3, nI_toInt, nI_add, pk_mul, nI_leI, nI_ltI, nI_eq, pk_sub, ib_nI, nI_clamp, va_up_self, va_up_ne, va_up_up, va_up_comm, pk_us, pk_un, upd_up, updL_up, pk_uLs, pk_uLn, b01_1, b01_0, b01_1s, b01_0s, or_b, hnm, e, hg, hcl, hf, oI, refuse_eq]
      exact this
    | some k =>
      have hk := fnd_lt _ _ _ hf
      have := hQ3 e k hf (by omega)
      simp (disch := omega) [w42_0, x42_1_2, w42_4, w42_7, w42_8, x42_9_2, w42_12, w42_13, w42_14, x42_15_2, x42_18_6, w42_21, w42_22, w42_23, w42_24, w42_27, w42_28, x42_29_2, w42_32, w42_35, w42_36, rt42, aw_st, ai_cls, ai_len, ai_p, ai_sw, ai_m, ai_c, ai_at, ai_isI, ai_isJ, ai_isA, ai_ld, ai_1i, ai_2i, ai_2l, ai_cn, ai_j, ai_set, ai_set2, ai_nl, ai_rs, ai_sm, Value.category, hk0, hk1, lits, litb, litm, litm2, List.getElem?_cons_zero, List.getElem?_cons_succ, or_n0, bit_r, fi0, fi1, fi2, fi3, nI_toInt, nI_add, pk_mul, nI_leI, nI_ltI, nI_eq, pk_sub, ib_nI, nI_clamp, va_up_self, va_up_ne, va_up_up, va_up_comm, pk_us, pk_un, upd_up, updL_up, pk_uLs, pk_uLn, b01_1, b01_0, b01_1s, b01_0s, or_b, hnm, e, hg, hcl, hf, oI, nI_mi1]
      exact this
set_option maxHeartbeats 4000000 in
theorem takePerson_6 {nm : Nat → List Nat} {P : Nat} (h : RDc t n lim i f g flt) (hT : TB8 (X 1) t) (hn : n ≤ 940) (hl : lim ≤ 940) (hi : i ≤ n) (hP : P ≤ 8) (hk : X 6 7 = nI P) (hm : ∀ q, q < P → Y 7 q = lN (v5 (nm q)) ∧ WD (nm q)) (hQ1 : isNm t n lim i = false → ∀ f', RDc t n lim i f' g 1 → Q [.int mi1] 231 sl (mem (va_up X 2 f') (va_up Y 2 g))) (hQ2 : isNm t n lim i = true → fnd nm (tW t n i) P 0 = none → ∀ f', RDc t n lim i f' g 3 → Q [.int mi1] 231 sl (mem (va_up X 2 f') (va_up Y 2 g))) (hQ3 : isNm t n lim i = true → ∀ k, fnd nm (tW t n i) P 0 = some k → k < P → ∀ f' g', RDc t n lim (tA t n lim i) f' g' flt → Q [.int (nI k)] 231 sl (mem (va_up X 2 f') (va_up Y 2 g'))) : aw ET G (d + 3) 41 0 [some (.ref 2), some (.ref 6), none] [] 231 sl (mem (va_up X 2 f) (va_up Y 2 g)) Q := by
  simp (disch := omega) [w41_0, w41_1, x41_2_2, w41_5, w41_6, w41_7, w41_8, w41_11, x41_12_2, w41_15, w41_16, rt41, aw_st, ai_cls, ai_len, ai_p, ai_sw, ai_m, ai_c, ai_at, ai_isI, ai_isJ, ai_isA, ai_ld, ai_1i, ai_2i, ai_2l, ai_cn, ai_j, ai_set, ai_set2, ai_nl, ai_rs, ai_sm, Value.category, hk0, hk1, lits, litb, litm, litm2, List.getElem?_cons_zero, List.getElem?_cons_succ, or_n0, bit_r, fi0, fi1, fi2, fi3, nI_toInt, nI_add, pk_mul, nI_leI, nI_ltI, nI_eq, pk_sub, ib_nI, nI_clamp, va_up_self, va_up_ne, va_up_up, va_up_comm, pk_us, pk_un, upd_up, updL_up, pk_uLs, pk_uLn, b01_1, b01_0, b01_1s, b01_0s, or_b]
  refine personHere_6 (nm := nm) (P := P) h hT hn hi hP hk hm (fun e f' r => ?_) (fun e e2 f' r => ?_) (fun e k e2 hk2 => ?_)
  · have := hQ1 e f' r
    simp (disch := omega) [w41_0, w41_1, x41_2_2, w41_5, w41_6, w41_7, w41_8, w41_11, x41_12_2, w41_15, w41_16, rt41, aw_st, ai_cls, ai_len, ai_p, ai_sw, ai_m, ai_c, ai_at, ai_isI, ai_isJ, ai_isA, ai_ld, ai_1i, ai_2i, ai_2l, ai_cn, ai_j, ai_set, ai_set2, ai_nl, ai_rs, ai_sm, Value.category, hk0, hk1, lits, litb, litm, litm2, List.getElem?_cons_zero, List.getElem?_cons_succ, or_n0, bit_r, fi0, fi1, fi2, fi3, nI_toInt, nI_add, pk_mul, nI_leI, nI_ltI, nI_eq, pk_sub, ib_nI, nI_clamp, va_up_self, va_up_ne, va_up_up, va_up_comm, pk_us, pk_un, upd_up, updL_up, pk_uLs, pk_uLn, b01_1, b01_0, b01_1s, b01_0s, or_b]
    exact this
  · have := hQ2 e e2 f' r
    simp (disch := omega) [w41_0, w41_1, x41_2_2, w41_5, w41_6, w41_7, w41_8, w41_11, x41_12_2, w41_15, w41_16, rt41, aw_st, ai_cls, ai_len, ai_p, ai_sw, ai_m, ai_c, ai_at, ai_isI, ai_isJ, ai_isA, ai_ld, ai_1i, ai_2i, ai_2l, ai_cn, ai_j, ai_set, ai_set2, ai_nl, ai_rs, ai_sm, Value.category, hk0, hk1, lits, litb, litm, litm2, List.getElem?_cons_zero, List.getElem?_cons_succ, or_n0, bit_r, fi0, fi1, fi2, fi3, nI_toInt, nI_add, pk_mul, nI_leI, nI_ltI, nI_eq, pk_sub, ib_nI, nI_clamp, va_up_self, va_up_ne, va_up_up, va_up_comm, pk_us, pk_un, upd_up, updL_up, pk_uLs, pk_uLn, b01_1, b01_0, b01_1s, b01_0s, or_b]
    exact this
  · obtain ⟨a0, a1, a2, a3, a4, a5, a8, a9, a7, a6⟩ := h
    simp (disch := omega) [w41_0, w41_1, x41_2_2, w41_5, w41_6, w41_7, w41_8, w41_11, x41_12_2, w41_15, w41_16, rt41, aw_st, ai_cls, ai_len, ai_p, ai_sw, ai_m, ai_c, ai_at, ai_isI, ai_isJ, ai_isA, ai_ld, ai_1i, ai_2i, ai_2l, ai_cn, ai_j, ai_set, ai_set2, ai_nl, ai_rs, ai_sm, Value.category, hk0, hk1, lits, litb, litm, litm2, List.getElem?_cons_zero, List.getElem?_cons_succ, or_n0, bit_r, fi0, fi1, fi2, fi3, nI_toInt, nI_add, pk_mul, nI_leI, nI_ltI, nI_eq, pk_sub, ib_nI, nI_clamp, va_up_self, va_up_ne, va_up_up, va_up_comm, pk_us, pk_un, upd_up, updL_up, pk_uLs, pk_uLn, b01_1, b01_0, b01_1s, b01_0s, or_b, nI_mi1]
    refine step_wp (flt := flt) a0 a1 a2 a3 a9 hT hn hl (tA_le hi) (fun f' g' r => ?_)
    have := hQ3 e k e2 hk2 f' g' r
    simp (disch := omega) [w41_0, w41_1, x41_2_2, w41_5, w41_6, w41_7, w41_8, w41_11, x41_12_2, w41_15, w41_16, rt41, aw_st, ai_cls, ai_len, ai_p, ai_sw, ai_m, ai_c, ai_at, ai_isI, ai_isJ, ai_isA, ai_ld, ai_1i, ai_2i, ai_2l, ai_cn, ai_j, ai_set, ai_set2, ai_nl, ai_rs, ai_sm, Value.category, hk0, hk1, lits, litb, litm, litm2, List.getElem?_cons_zero, List.getElem?_cons_succ, or_n0, bit_r, fi0, fi1, fi2, fi3, nI_toInt, nI_add, pk_mul, nI_leI, nI_ltI, nI_eq, pk_sub, ib_nI, nI_clamp, va_up_self, va_up_ne, va_up_up, va_up_comm, pk_us, pk_un, upd_up, updL_up, pk_uLs, pk_uLn, b01_1, b01_0, b01_1s, b01_0s, or_b]
    exact this
set_option maxHeartbeats 4000000 in
theorem takeStory_6 {nm : Nat → List Nat} {P : Nat} (h : RDc t n lim i f g flt) (hT : TB8 (X 1) t) (hn : n ≤ 940) (hl : lim ≤ 940) (hi : i ≤ n) (hP : P ≤ 8) (hk : X 6 8 = nI P) (hm : ∀ q, q < P → Y 10 q = lN (v5 (nm q)) ∧ WD (nm q)) (hQ1 : isNm t n lim i = false → ∀ f', RDc t n lim i f' g 1 → Q [.int mi1] 231 sl (mem (va_up X 2 f') (va_up Y 2 g))) (hQ2 : isNm t n lim i = true → fnd nm (tW t n i) P 0 = none → ∀ f', RDc t n lim i f' g 3 → Q [.int mi1] 231 sl (mem (va_up X 2 f') (va_up Y 2 g))) (hQ3 : isNm t n lim i = true → ∀ k, fnd nm (tW t n i) P 0 = some k → k < P → ∀ f' g', RDc t n lim (tA t n lim i) f' g' flt → Q [.int (nI k)] 231 sl (mem (va_up X 2 f') (va_up Y 2 g'))) : aw ET G (d + 3) 148 0 [some (.ref 2), some (.ref 6), none] [] 231 sl (mem (va_up X 2 f) (va_up Y 2 g)) Q := by
  have hnm := fun (Q : List Value → Nat → Nat → ai_M → Prop) => isName_eq (G := G) (d := d + 2) (sl := sl) (Q := Q) (Y := va_up Y 2 g) h hT hn hi
  cases e : isNm t n lim i
  · have := hQ1 e _ (RDc_flt h 1)
    simp (disch := omega) [w148_0, x148_1_2, w148_4, w148_7, w148_8, x148_9_2, w148_12, w148_13, w148_14, x148_15_2, x148_18_6, w148_21, w148_22, w148_23, w148_24, w148_27, w148_28, x148_29_2, w148_32, w148_33, x148_34_2, w148_37, w148_38, rt148, aw_st, ai_cls, ai_len, ai_p, ai_sw, ai_m, ai_c, ai_at, ai_isI, ai_isJ, ai_isA, ai_ld, ai_1i, ai_2i, ai_2l, ai_cn, ai_j, ai_set, ai_set2, ai_nl, ai_rs, ai_sm, Value.category, hk0, hk1, lits, litb, litm, litm2, List.getElem?_cons_zero, List.getElem?_cons_succ, or_n0, bit_r, fi0, fi1, fi2, fi3, nI_toInt, nI_add, pk_mul, nI_leI, nI_ltI, nI_eq, pk_sub, ib_nI, nI_clamp, va_up_self, va_up_ne, va_up_up, va_up_comm, pk_us, pk_un, upd_up, updL_up, pk_uLs, pk_uLn, b01_1, b01_0, b01_1s, b01_0s, or_b, hnm, e, refuse_eq]
    exact this
  · obtain ⟨k2, ky, hwd⟩ := isNm_wd e hT hn hi
    have hg := h.2.2.2.2.2.2.2.2.1 k2
    have hcl := fun (Q : List Value → Nat → Nat → ai_M → Prop) => storied_eq_6 (G := G) (d := d + 2) (sl := sl) (Q := Q) (X := va_up X 2 f) (Y := va_up Y 2 g) (nm := nm) (w := tW t n i) hP (by simpa [va_up] using hk) hwd (fun q hq => by simpa [va_up] using hm q hq)
    cases hf : fnd nm (tW t n i) P 0 with
    | none =>
      have := hQ2 e hf _ (RDc_flt h 3)
      simp (disch := omega) [w148_0, x148_1_2, w148_4, w148_7, w148_8, x148_9_2, w148_12, w148_13, w148_14, x148_15_2, x148_18_6, w148_21, w148_22, w148_23, w148_24, w148_27, w148_28, x148_29_2, w148_32, w148_33, x148_34_2, w148_37, w148_38, rt148, aw_st, ai_cls, ai_len, ai_p, ai_sw, ai_m, ai_c, ai_at, ai_isI, ai_isJ, ai_isA, ai_ld, ai_1i, ai_2i, ai_2l, ai_cn, ai_j, ai_set, ai_set2, ai_nl, ai_rs, ai_sm, Value.category, hk0, hk1, lits, litb, litm, litm2, List.getElem?_cons_zero, List.getElem?_cons_succ, or_n0, bit_r, fi0, fi1, fi2, fi3, nI_toInt, nI_add, pk_mul, nI_leI, nI_ltI, nI_eq, pk_sub, ib_nI, nI_clamp, va_up_self, va_up_ne, va_up_up, va_up_comm, pk_us, pk_un, upd_up, updL_up, pk_uLs, pk_uLn, b01_1, b01_0, b01_1s, b01_0s, or_b, hnm, e, hg, hcl, hf, oI, refuse_eq]
      exact this
    | some k =>
      have hk := fnd_lt _ _ _ hf
      obtain ⟨a0, a1, a2, a3, a4, a5, a8, a9, a7, a6⟩ := h
      simp (disch := omega) [w148_0, x148_1_2, w148_4, w148_7, w148_8, x148_9_2, w148_12, w148_13, w148_14, x148_15_2, x148_18_6, w148_21, w148_22, w148_23, w148_24, w148_27, w148_28, x148_29_2, w148_32, w148_33, x148_34_2, w148_37, w148_38, rt148, aw_st, ai_cls, ai_len, ai_p, ai_sw, ai_m, ai_c, ai_at, ai_isI, ai_isJ, ai_isA, ai_ld, ai_1i, ai_2i, ai_2l, ai_cn, ai_j, ai_set, ai_set2, ai_nl, ai_rs, ai_sm, Value.category, hk0, hk1, lits, litb, litm, litm2, List.getElem?_cons_zero, List.getElem?_cons_succ, or_n0, bit_r, fi0, fi1, fi2, fi3, nI_toInt, nI_add, pk_mul, nI_leI, nI_ltI, nI_eq, pk_sub, ib_nI, nI_clamp, va_up_self, va_up_ne, va_up_up, va_up_comm, pk_us, pk_un, upd_up, updL_up, pk_uLs, pk_uLn, b01_1, b01_0, b01_1s, b01_0s, or_b, hnm, e, hg, hcl, hf, oI, nI_mi1]
      refine step_wp (flt := flt) a0 a1 a2 a3 a9 hT hn hl (tA_le hi) (fun f' g' r => ?_)
      have := hQ3 e k hf (by omega) f' g' r
      simp (disch := omega) [w148_0, x148_1_2, w148_4, w148_7, w148_8, x148_9_2, w148_12, w148_13, w148_14, x148_15_2, x148_18_6, w148_21, w148_22, w148_23, w148_24, w148_27, w148_28, x148_29_2, w148_32, w148_33, x148_34_2, w148_37, w148_38, rt148, aw_st, ai_cls, ai_len, ai_p, ai_sw, ai_m, ai_c, ai_at, ai_isI, ai_isJ, ai_isA, ai_ld, ai_1i, ai_2i, ai_2l, ai_cn, ai_j, ai_set, ai_set2, ai_nl, ai_rs, ai_sm, Value.category, hk0, hk1, lits, litb, litm, litm2, List.getElem?_cons_zero, List.getElem?_cons_succ, or_n0, bit_r, fi0, fi1, fi2, fi3, nI_toInt, nI_add, pk_mul, nI_leI, nI_ltI, nI_eq, pk_sub, ib_nI, nI_clamp, va_up_self, va_up_ne, va_up_up, va_up_comm, pk_us, pk_un, upd_up, updL_up, pk_uLs, pk_uLn, b01_1, b01_0, b01_1s, b01_0s, or_b]
      exact this
set_option maxHeartbeats 4000000 in
theorem called_loop_47 {nm : Nat → List Nat} {w : List Nat} {P : Nat} (hP : P ≤ 8) (hk : X 47 7 = nI P) (hw : WD w) (hn : ∀ q, q < P → Y 48 q = lN (v5 (nm q)) ∧ WD (nm q)) : ∀ (r k : Nat), k + r = P → aw ET G d 36 2 [some (.ref 47), some (.long (lN (v5 w))), none, some (.int (nI k))] [] 231 sl (mem X Y) Q = Q [.int (oI (fnd nm w r k))] 231 sl (mem X Y) := by
  intro r
  induction r with
  | zero =>
    intro k hk'
    simp (disch := omega) [w36_0, w36_1, w36_2, w36_3, x36_4_47, w36_7, w36_10, x36_11_47, w36_14, w36_15, w36_16, w36_17, w36_18, w36_21, w36_22, w36_23, w36_26, w36_29, w36_30, rt36, aw_st, ai_cls, ai_len, ai_p, ai_sw, ai_m, ai_c, ai_at, ai_isI, ai_isJ, ai_isA, ai_ld, ai_1i, ai_2i, ai_2l, ai_cn, ai_j, ai_set, ai_set2, ai_nl, ai_rs, ai_sm, Value.category, hk0, hk1, lits, litb, litm, litm2, List.getElem?_cons_zero, List.getElem?_cons_succ, or_n0, bit_r, fi0, fi1, fi2, fi3, nI_toInt, nI_add, pk_mul, nI_leI, nI_ltI, nI_eq, pk_sub, ib_nI, nI_clamp, va_up_self, va_up_ne, va_up_up, va_up_comm, pk_us, pk_un, upd_up, updL_up, pk_uLs, pk_uLn, b01_1, b01_0, b01_1s, b01_0s, or_b, hk, show P ≤ k by omega, fnd, oI]
  | succ r ih =>
    intro k hk'
    obtain ⟨e1, e2⟩ := hn k (by omega)
    have hc := v5_lN e2 hw
    rw [w36_2]
    unfold fnd
    by_cases c : nm k = w
    · simp (disch := omega) [w36_0, w36_1, w36_3, x36_4_47, w36_7, w36_10, x36_11_47, w36_14, w36_15, w36_16, w36_17, w36_18, w36_21, w36_22, w36_23, w36_26, w36_29, w36_30, rt36, aw_st, ai_cls, ai_len, ai_p, ai_sw, ai_m, ai_c, ai_at, ai_isI, ai_isJ, ai_isA, ai_ld, ai_1i, ai_2i, ai_2l, ai_cn, ai_j, ai_set, ai_set2, ai_nl, ai_rs, ai_sm, Value.category, hk0, hk1, lits, litb, litm, litm2, List.getElem?_cons_zero, List.getElem?_cons_succ, or_n0, bit_r, fi0, fi1, fi2, fi3, nI_toInt, nI_add, pk_mul, nI_leI, nI_ltI, nI_eq, pk_sub, ib_nI, nI_clamp, va_up_self, va_up_ne, va_up_up, va_up_comm, pk_us, pk_un, upd_up, updL_up, pk_uLs, pk_uLn, b01_1, b01_0, b01_1s, b01_0s, or_b, mm48, hk, show ¬ P ≤ k by omega, e1, lgc_eq, hc, c, oI]
    · have := ih (k + 1) (by omega)
      simp (disch := omega) [w36_0, w36_1, w36_3, x36_4_47, w36_7, w36_10, x36_11_47, w36_14, w36_15, w36_16, w36_17, w36_18, w36_21, w36_22, w36_23, w36_26, w36_29, w36_30, rt36, aw_st, ai_cls, ai_len, ai_p, ai_sw, ai_m, ai_c, ai_at, ai_isI, ai_isJ, ai_isA, ai_ld, ai_1i, ai_2i, ai_2l, ai_cn, ai_j, ai_set, ai_set2, ai_nl, ai_rs, ai_sm, Value.category, hk0, hk1, lits, litb, litm, litm2, List.getElem?_cons_zero, List.getElem?_cons_succ, or_n0, bit_r, fi0, fi1, fi2, fi3, nI_toInt, nI_add, pk_mul, nI_leI, nI_ltI, nI_eq, pk_sub, ib_nI, nI_clamp, va_up_self, va_up_ne, va_up_up, va_up_comm, pk_us, pk_un, upd_up, updL_up, pk_uLs, pk_uLn, b01_1, b01_0, b01_1s, b01_0s, or_b, mm48, hk, show ¬ P ≤ k by omega, e1, lgc_eq, hc, c]
      exact Iff.of_eq this
theorem called_eq_47 {nm : Nat → List Nat} {w : List Nat} {P : Nat} (hP : P ≤ 8) (hk : X 47 7 = nI P) (hw : WD w) (hn : ∀ q, q < P → Y 48 q = lN (v5 (nm q)) ∧ WD (nm q)) : aw ET G d 36 0 [some (.ref 47), some (.long (lN (v5 w))), none, none] [] 231 sl (mem X Y) Q = Q [.int (oI (fnd nm w P 0))] 231 sl (mem X Y) := by
  have := called_loop_47 (G := G) (d := d) (sl := sl) (Q := Q) hP hk hw hn P 0 (by omega)
  simp (disch := omega) [w36_0, w36_1, aw_st, ai_cls, ai_len, ai_p, ai_sw, ai_m, ai_c, ai_at, ai_isI, ai_isJ, ai_isA, ai_ld, ai_1i, ai_2i, ai_2l, ai_cn, ai_j, ai_set, ai_set2, ai_nl, ai_rs, ai_sm, Value.category, hk0, hk1, lits, litb, litm, litm2, List.getElem?_cons_zero, List.getElem?_cons_succ, or_n0, bit_r, fi0, fi1, fi2, fi3, nI_toInt, nI_add, pk_mul, nI_leI, nI_ltI, nI_eq, pk_sub, ib_nI, nI_clamp, va_up_self, va_up_ne, va_up_up, va_up_comm, pk_us, pk_un, upd_up, updL_up, pk_uLs, pk_uLn, b01_1, b01_0, b01_1s, b01_0s, or_b]
  exact Iff.of_eq this
set_option maxHeartbeats 4000000 in
theorem storied_loop_47 {nm : Nat → List Nat} {w : List Nat} {P : Nat} (hP : P ≤ 8) (hk : X 47 8 = nI P) (hw : WD w) (hn : ∀ q, q < P → Y 51 q = lN (v5 (nm q)) ∧ WD (nm q)) : ∀ (r k : Nat), k + r = P → aw ET G d 37 2 [some (.ref 47), some (.long (lN (v5 w))), none, some (.int (nI k))] [] 231 sl (mem X Y) Q = Q [.int (oI (fnd nm w r k))] 231 sl (mem X Y) := by
  intro r
  induction r with
  | zero =>
    intro k hk'
    simp (disch := omega) [w37_0, w37_1, w37_2, w37_3, x37_4_47, w37_7, w37_10, x37_11_47, w37_14, w37_15, w37_16, w37_17, w37_18, w37_21, w37_22, w37_23, w37_26, w37_29, w37_30, rt37, aw_st, ai_cls, ai_len, ai_p, ai_sw, ai_m, ai_c, ai_at, ai_isI, ai_isJ, ai_isA, ai_ld, ai_1i, ai_2i, ai_2l, ai_cn, ai_j, ai_set, ai_set2, ai_nl, ai_rs, ai_sm, Value.category, hk0, hk1, lits, litb, litm, litm2, List.getElem?_cons_zero, List.getElem?_cons_succ, or_n0, bit_r, fi0, fi1, fi2, fi3, nI_toInt, nI_add, pk_mul, nI_leI, nI_ltI, nI_eq, pk_sub, ib_nI, nI_clamp, va_up_self, va_up_ne, va_up_up, va_up_comm, pk_us, pk_un, upd_up, updL_up, pk_uLs, pk_uLn, b01_1, b01_0, b01_1s, b01_0s, or_b, hk, show P ≤ k by omega, fnd, oI]
  | succ r ih =>
    intro k hk'
    obtain ⟨e1, e2⟩ := hn k (by omega)
    have hc := v5_lN e2 hw
    rw [w37_2]
    unfold fnd
    by_cases c : nm k = w
    · simp (disch := omega) [w37_0, w37_1, w37_3, x37_4_47, w37_7, w37_10, x37_11_47, w37_14, w37_15, w37_16, w37_17, w37_18, w37_21, w37_22, w37_23, w37_26, w37_29, w37_30, rt37, aw_st, ai_cls, ai_len, ai_p, ai_sw, ai_m, ai_c, ai_at, ai_isI, ai_isJ, ai_isA, ai_ld, ai_1i, ai_2i, ai_2l, ai_cn, ai_j, ai_set, ai_set2, ai_nl, ai_rs, ai_sm, Value.category, hk0, hk1, lits, litb, litm, litm2, List.getElem?_cons_zero, List.getElem?_cons_succ, or_n0, bit_r, fi0, fi1, fi2, fi3, nI_toInt, nI_add, pk_mul, nI_leI, nI_ltI, nI_eq, pk_sub, ib_nI, nI_clamp, va_up_self, va_up_ne, va_up_up, va_up_comm, pk_us, pk_un, upd_up, updL_up, pk_uLs, pk_uLn, b01_1, b01_0, b01_1s, b01_0s, or_b, mm51, hk, show ¬ P ≤ k by omega, e1, lgc_eq, hc, c, oI]
    · have := ih (k + 1) (by omega)
      simp (disch := omega) [w37_0, w37_1, w37_3, x37_4_47, w37_7, w37_10, x37_11_47, w37_14, w37_15, w37_16, w37_17, w37_18, w37_21, w37_22, w37_23, w37_26, w37_29, w37_30, rt37, aw_st, ai_cls, ai_len, ai_p, ai_sw, ai_m, ai_c, ai_at, ai_isI, ai_isJ, ai_isA, ai_ld, ai_1i, ai_2i, ai_2l, ai_cn, ai_j, ai_set, ai_set2, ai_nl, ai_rs, ai_sm, Value.category, hk0, hk1, lits, litb, litm, litm2, List.getElem?_cons_zero, List.getElem?_cons_succ, or_n0, bit_r, fi0, fi1, fi2, fi3, nI_toInt, nI_add, pk_mul, nI_leI, nI_ltI, nI_eq, pk_sub, ib_nI, nI_clamp, va_up_self, va_up_ne, va_up_up, va_up_comm, pk_us, pk_un, upd_up, updL_up, pk_uLs, pk_uLn, b01_1, b01_0, b01_1s, b01_0s, or_b, mm51, hk, show ¬ P ≤ k by omega, e1, lgc_eq, hc, c]
      exact Iff.of_eq this
theorem storied_eq_47 {nm : Nat → List Nat} {w : List Nat} {P : Nat} (hP : P ≤ 8) (hk : X 47 8 = nI P) (hw : WD w) (hn : ∀ q, q < P → Y 51 q = lN (v5 (nm q)) ∧ WD (nm q)) : aw ET G d 37 0 [some (.ref 47), some (.long (lN (v5 w))), none, none] [] 231 sl (mem X Y) Q = Q [.int (oI (fnd nm w P 0))] 231 sl (mem X Y) := by
  have := storied_loop_47 (G := G) (d := d) (sl := sl) (Q := Q) hP hk hw hn P 0 (by omega)
  simp (disch := omega) [w37_0, w37_1, aw_st, ai_cls, ai_len, ai_p, ai_sw, ai_m, ai_c, ai_at, ai_isI, ai_isJ, ai_isA, ai_ld, ai_1i, ai_2i, ai_2l, ai_cn, ai_j, ai_set, ai_set2, ai_nl, ai_rs, ai_sm, Value.category, hk0, hk1, lits, litb, litm, litm2, List.getElem?_cons_zero, List.getElem?_cons_succ, or_n0, bit_r, fi0, fi1, fi2, fi3, nI_toInt, nI_add, pk_mul, nI_leI, nI_ltI, nI_eq, pk_sub, ib_nI, nI_clamp, va_up_self, va_up_ne, va_up_up, va_up_comm, pk_us, pk_un, upd_up, updL_up, pk_uLs, pk_uLn, b01_1, b01_0, b01_1s, b01_0s, or_b]
  exact Iff.of_eq this
set_option maxHeartbeats 4000000 in
theorem personHere_47 {nm : Nat → List Nat} {P : Nat} (h : RDc t n lim i f g flt) (hT : TB8 (X 1) t) (hn : n ≤ 940) (hi : i ≤ n) (hP : P ≤ 8) (hk : X 47 7 = nI P) (hm : ∀ q, q < P → Y 48 q = lN (v5 (nm q)) ∧ WD (nm q)) (hQ1 : isNm t n lim i = false → ∀ f', RDc t n lim i f' g 1 → Q [.int mi1] 231 sl (mem (va_up X 2 f') (va_up Y 2 g))) (hQ2 : isNm t n lim i = true → fnd nm (tW t n i) P 0 = none → ∀ f', RDc t n lim i f' g 3 → Q [.int mi1] 231 sl (mem (va_up X 2 f') (va_up Y 2 g))) (hQ3 : isNm t n lim i = true → ∀ k, fnd nm (tW t n i) P 0 = some k → k < P → Q [.int (nI k)] 231 sl (mem (va_up X 2 f) (va_up Y 2 g))) : aw ET G (d + 2) 42 0 [some (.ref 2), some (.ref 47), none] [] 231 sl (mem (va_up X 2 f) (va_up Y 2 g)) Q := by
  have hnm := fun (Q : List Value → Nat → Nat → ai_M → Prop) => isName_eq (G := G) (d := d + 1) (sl := sl) (Q := Q) (Y := va_up Y 2 g) h hT hn hi
  cases e : isNm t n lim i
  · have := hQ1 e _ (RDc_flt h 1)
    simp (disch := omega) [w42_0, x42_1_2, w42_4, w42_7, w42_8, x42_9_2, w42_12, w42_13, w42_14, x42_15_2, x42_18_47, w42_21, w42_22, w42_23, w42_24, w42_27, w42_28, x42_29_2, w42_32, w42_35, w42_36, rt42, aw_st, ai_cls, ai_len, ai_p, ai_sw, ai_m, ai_c, ai_at, ai_isI, ai_isJ, ai_isA, ai_ld, ai_1i, ai_2i, ai_2l, ai_cn, ai_j, ai_set, ai_set2, ai_nl, ai_rs, ai_sm, Value.category, hk0, hk1, lits, litb, litm, litm2, List.getElem?_cons_zero, List.getElem?_cons_succ, or_n0, bit_r, fi0, fi1, fi2, fi3, nI_toInt, nI_add, pk_mul, nI_leI, nI_ltI, nI_eq, pk_sub, ib_nI, nI_clamp, va_up_self, va_up_ne, va_up_up, va_up_comm, pk_us, pk_un, upd_up, updL_up, pk_uLs, pk_uLn, b01_1, b01_0, b01_1s, b01_0s, or_b, hnm, e, refuse_eq]
    exact this
  · obtain ⟨k2, ky, hwd⟩ := isNm_wd e hT hn hi
    have hg := h.2.2.2.2.2.2.2.2.1 k2
    have hcl := fun (Q : List Value → Nat → Nat → ai_M → Prop) => called_eq_47 (G := G) (d := d + 1) (sl := sl) (Q := Q) (X := va_up X 2 f) (Y := va_up Y 2 g) (nm := nm) (w := tW t n i) hP (by simpa [va_up] using hk) hwd (fun q hq => by simpa [va_up] using hm q hq)
    cases hf : fnd nm (tW t n i) P 0 with
    | none =>
      have := hQ2 e hf _ (RDc_flt h 3)
      simp (disch := omega) [w42_0, x42_1_2, w42_4, w42_7, w42_8, x42_9_2, w42_12, w42_13, w42_14, x42_15_2, x42_18_47, w42_21, w42_22, w42_23, w42_24, w42_27, w42_28, x42_29_2, w42_32, w42_35, w42_36, rt42, aw_st, ai_cls, ai_len, ai_p, ai_sw, ai_m, ai_c, ai_at, ai_isI, ai_isJ, ai_isA, ai_ld, ai_1i, ai_2i, ai_2l, ai_cn, ai_j, ai_set, ai_set2, ai_nl, ai_rs, ai_sm, Value.category, hk0, hk1, lits, litb, litm, litm2, List.getElem?_cons_zero, List.getElem?_cons_succ, or_n0, bit_r, fi0, fi1, fi2, fi3, nI_toInt, nI_add, pk_mul, nI_leI, nI_ltI, nI_eq, pk_sub, ib_nI, nI_clamp, va_up_self, va_up_ne, va_up_up, va_up_comm, pk_us, pk_un, upd_up, updL_up, pk_uLs, pk_uLn, b01_1, b01_0, b01_1s, b01_0s, or_b, hnm, e, hg, hcl, hf, oI, refuse_eq]
      exact this
    | some k =>
      have hk := fnd_lt _ _ _ hf
      have := hQ3 e k hf (by omega)
      simp (disch := omega) [w42_0, x42_1_2, w42_4, w42_7, w42_8, x42_9_2, w42_12, w42_13, w42_14, x42_15_2, x42_18_47, w42_21, w42_22, w42_23, w42_24, w42_27, w42_28, x42_29_2, w42_32, w42_35, w42_36, rt42, aw_st, ai_cls, ai_len, ai_p, ai_sw, ai_m, ai_c, ai_at, ai_isI, ai_isJ, ai_isA, ai_ld, ai_1i, ai_2i, ai_2l, ai_cn, ai_j, ai_set, ai_set2, ai_nl, ai_rs, ai_sm, Value.category, hk0, hk1, lits, litb, litm, litm2, List.getElem?_cons_zero, List.getElem?_cons_succ, or_n0, bit_r, fi0, fi1, fi2, fi3, nI_toInt, nI_add, pk_mul, nI_leI, nI_ltI, nI_eq, pk_sub, ib_nI, nI_clamp, va_up_self, va_up_ne, va_up_up, va_up_comm, pk_us, pk_un, upd_up, updL_up, pk_uLs, pk_uLn, b01_1, b01_0, b01_1s, b01_0s, or_b, hnm, e, hg, hcl, hf, oI, nI_mi1]
      exact this
set_option maxHeartbeats 4000000 in
theorem takePerson_47 {nm : Nat → List Nat} {P : Nat} (h : RDc t n lim i f g flt) (hT : TB8 (X 1) t) (hn : n ≤ 940) (hl : lim ≤ 940) (hi : i ≤ n) (hP : P ≤ 8) (hk : X 47 7 = nI P) (hm : ∀ q, q < P → Y 48 q = lN (v5 (nm q)) ∧ WD (nm q)) (hQ1 : isNm t n lim i = false → ∀ f', RDc t n lim i f' g 1 → Q [.int mi1] 231 sl (mem (va_up X 2 f') (va_up Y 2 g))) (hQ2 : isNm t n lim i = true → fnd nm (tW t n i) P 0 = none → ∀ f', RDc t n lim i f' g 3 → Q [.int mi1] 231 sl (mem (va_up X 2 f') (va_up Y 2 g))) (hQ3 : isNm t n lim i = true → ∀ k, fnd nm (tW t n i) P 0 = some k → k < P → ∀ f' g', RDc t n lim (tA t n lim i) f' g' flt → Q [.int (nI k)] 231 sl (mem (va_up X 2 f') (va_up Y 2 g'))) : aw ET G (d + 3) 41 0 [some (.ref 2), some (.ref 47), none] [] 231 sl (mem (va_up X 2 f) (va_up Y 2 g)) Q := by
  simp (disch := omega) [w41_0, w41_1, x41_2_2, w41_5, w41_6, w41_7, w41_8, w41_11, x41_12_2, w41_15, w41_16, rt41, aw_st, ai_cls, ai_len, ai_p, ai_sw, ai_m, ai_c, ai_at, ai_isI, ai_isJ, ai_isA, ai_ld, ai_1i, ai_2i, ai_2l, ai_cn, ai_j, ai_set, ai_set2, ai_nl, ai_rs, ai_sm, Value.category, hk0, hk1, lits, litb, litm, litm2, List.getElem?_cons_zero, List.getElem?_cons_succ, or_n0, bit_r, fi0, fi1, fi2, fi3, nI_toInt, nI_add, pk_mul, nI_leI, nI_ltI, nI_eq, pk_sub, ib_nI, nI_clamp, va_up_self, va_up_ne, va_up_up, va_up_comm, pk_us, pk_un, upd_up, updL_up, pk_uLs, pk_uLn, b01_1, b01_0, b01_1s, b01_0s, or_b]
  refine personHere_47 (nm := nm) (P := P) h hT hn hi hP hk hm (fun e f' r => ?_) (fun e e2 f' r => ?_) (fun e k e2 hk2 => ?_)
  · have := hQ1 e f' r
    simp (disch := omega) [w41_0, w41_1, x41_2_2, w41_5, w41_6, w41_7, w41_8, w41_11, x41_12_2, w41_15, w41_16, rt41, aw_st, ai_cls, ai_len, ai_p, ai_sw, ai_m, ai_c, ai_at, ai_isI, ai_isJ, ai_isA, ai_ld, ai_1i, ai_2i, ai_2l, ai_cn, ai_j, ai_set, ai_set2, ai_nl, ai_rs, ai_sm, Value.category, hk0, hk1, lits, litb, litm, litm2, List.getElem?_cons_zero, List.getElem?_cons_succ, or_n0, bit_r, fi0, fi1, fi2, fi3, nI_toInt, nI_add, pk_mul, nI_leI, nI_ltI, nI_eq, pk_sub, ib_nI, nI_clamp, va_up_self, va_up_ne, va_up_up, va_up_comm, pk_us, pk_un, upd_up, updL_up, pk_uLs, pk_uLn, b01_1, b01_0, b01_1s, b01_0s, or_b]
    exact this
  · have := hQ2 e e2 f' r
    simp (disch := omega) [w41_0, w41_1, x41_2_2, w41_5, w41_6, w41_7, w41_8, w41_11, x41_12_2, w41_15, w41_16, rt41, aw_st, ai_cls, ai_len, ai_p, ai_sw, ai_m, ai_c, ai_at, ai_isI, ai_isJ, ai_isA, ai_ld, ai_1i, ai_2i, ai_2l, ai_cn, ai_j, ai_set, ai_set2, ai_nl, ai_rs, ai_sm, Value.category, hk0, hk1, lits, litb, litm, litm2, List.getElem?_cons_zero, List.getElem?_cons_succ, or_n0, bit_r, fi0, fi1, fi2, fi3, nI_toInt, nI_add, pk_mul, nI_leI, nI_ltI, nI_eq, pk_sub, ib_nI, nI_clamp, va_up_self, va_up_ne, va_up_up, va_up_comm, pk_us, pk_un, upd_up, updL_up, pk_uLs, pk_uLn, b01_1, b01_0, b01_1s, b01_0s, or_b]
    exact this
  · obtain ⟨a0, a1, a2, a3, a4, a5, a8, a9, a7, a6⟩ := h
    simp (disch := omega) [w41_0, w41_1, x41_2_2, w41_5, w41_6, w41_7, w41_8, w41_11, x41_12_2, w41_15, w41_16, rt41, aw_st, ai_cls, ai_len, ai_p, ai_sw, ai_m, ai_c, ai_at, ai_isI, ai_isJ, ai_isA, ai_ld, ai_1i, ai_2i, ai_2l, ai_cn, ai_j, ai_set, ai_set2, ai_nl, ai_rs, ai_sm, Value.category, hk0, hk1, lits, litb, litm, litm2, List.getElem?_cons_zero, List.getElem?_cons_succ, or_n0, bit_r, fi0, fi1, fi2, fi3, nI_toInt, nI_add, pk_mul, nI_leI, nI_ltI, nI_eq, pk_sub, ib_nI, nI_clamp, va_up_self, va_up_ne, va_up_up, va_up_comm, pk_us, pk_un, upd_up, updL_up, pk_uLs, pk_uLn, b01_1, b01_0, b01_1s, b01_0s, or_b, nI_mi1]
    refine step_wp (flt := flt) a0 a1 a2 a3 a9 hT hn hl (tA_le hi) (fun f' g' r => ?_)
    have := hQ3 e k e2 hk2 f' g' r
    simp (disch := omega) [w41_0, w41_1, x41_2_2, w41_5, w41_6, w41_7, w41_8, w41_11, x41_12_2, w41_15, w41_16, rt41, aw_st, ai_cls, ai_len, ai_p, ai_sw, ai_m, ai_c, ai_at, ai_isI, ai_isJ, ai_isA, ai_ld, ai_1i, ai_2i, ai_2l, ai_cn, ai_j, ai_set, ai_set2, ai_nl, ai_rs, ai_sm, Value.category, hk0, hk1, lits, litb, litm, litm2, List.getElem?_cons_zero, List.getElem?_cons_succ, or_n0, bit_r, fi0, fi1, fi2, fi3, nI_toInt, nI_add, pk_mul, nI_leI, nI_ltI, nI_eq, pk_sub, ib_nI, nI_clamp, va_up_self, va_up_ne, va_up_up, va_up_comm, pk_us, pk_un, upd_up, updL_up, pk_uLs, pk_uLn, b01_1, b01_0, b01_1s, b01_0s, or_b]
    exact this
set_option maxHeartbeats 4000000 in
theorem takeStory_47 {nm : Nat → List Nat} {P : Nat} (h : RDc t n lim i f g flt) (hT : TB8 (X 1) t) (hn : n ≤ 940) (hl : lim ≤ 940) (hi : i ≤ n) (hP : P ≤ 8) (hk : X 47 8 = nI P) (hm : ∀ q, q < P → Y 51 q = lN (v5 (nm q)) ∧ WD (nm q)) (hQ1 : isNm t n lim i = false → ∀ f', RDc t n lim i f' g 1 → Q [.int mi1] 231 sl (mem (va_up X 2 f') (va_up Y 2 g))) (hQ2 : isNm t n lim i = true → fnd nm (tW t n i) P 0 = none → ∀ f', RDc t n lim i f' g 3 → Q [.int mi1] 231 sl (mem (va_up X 2 f') (va_up Y 2 g))) (hQ3 : isNm t n lim i = true → ∀ k, fnd nm (tW t n i) P 0 = some k → k < P → ∀ f' g', RDc t n lim (tA t n lim i) f' g' flt → Q [.int (nI k)] 231 sl (mem (va_up X 2 f') (va_up Y 2 g'))) : aw ET G (d + 3) 148 0 [some (.ref 2), some (.ref 47), none] [] 231 sl (mem (va_up X 2 f) (va_up Y 2 g)) Q := by
  have hnm := fun (Q : List Value → Nat → Nat → ai_M → Prop) => isName_eq (G := G) (d := d + 2) (sl := sl) (Q := Q) (Y := va_up Y 2 g) h hT hn hi
  cases e : isNm t n lim i
  · have := hQ1 e _ (RDc_flt h 1)
    simp (disch := omega) [w148_0, x148_1_2, w148_4, w148_7, w148_8, x148_9_2, w148_12, w148_13, w148_14, x148_15_2, x148_18_47, w148_21, w148_22, w148_23, w148_24, w148_27, w148_28, x148_29_2, w148_32, w148_33, x148_34_2, w148_37, w148_38, rt148, aw_st, ai_cls, ai_len, ai_p, ai_sw, ai_m, ai_c, ai_at, ai_isI, ai_isJ, ai_isA, ai_ld, ai_1i, ai_2i, ai_2l, ai_cn, ai_j, ai_set, ai_set2, ai_nl, ai_rs, ai_sm, Value.category, hk0, hk1, lits, litb, litm, litm2, List.getElem?_cons_zero, List.getElem?_cons_succ, or_n0, bit_r, fi0, fi1, fi2, fi3, nI_toInt, nI_add, pk_mul, nI_leI, nI_ltI, nI_eq, pk_sub, ib_nI, nI_clamp, va_up_self, va_up_ne, va_up_up, va_up_comm, pk_us, pk_un, upd_up, updL_up, pk_uLs, pk_uLn, b01_1, b01_0, b01_1s, b01_0s, or_b, hnm, e, refuse_eq]
    exact this
  · obtain ⟨k2, ky, hwd⟩ := isNm_wd e hT hn hi
    have hg := h.2.2.2.2.2.2.2.2.1 k2
    have hcl := fun (Q : List Value → Nat → Nat → ai_M → Prop) => storied_eq_47 (G := G) (d := d + 2) (sl := sl) (Q := Q) (X := va_up X 2 f) (Y := va_up Y 2 g) (nm := nm) (w := tW t n i) hP (by simpa [va_up] using hk) hwd (fun q hq => by simpa [va_up] using hm q hq)
    cases hf : fnd nm (tW t n i) P 0 with
    | none =>
      have := hQ2 e hf _ (RDc_flt h 3)
      simp (disch := omega) [w148_0, x148_1_2, w148_4, w148_7, w148_8, x148_9_2, w148_12, w148_13, w148_14, x148_15_2, x148_18_47, w148_21, w148_22, w148_23, w148_24, w148_27, w148_28, x148_29_2, w148_32, w148_33, x148_34_2, w148_37, w148_38, rt148, aw_st, ai_cls, ai_len, ai_p, ai_sw, ai_m, ai_c, ai_at, ai_isI, ai_isJ, ai_isA, ai_ld, ai_1i, ai_2i, ai_2l, ai_cn, ai_j, ai_set, ai_set2, ai_nl, ai_rs, ai_sm, Value.category, hk0, hk1, lits, litb, litm, litm2, List.getElem?_cons_zero, List.getElem?_cons_succ, or_n0, bit_r, fi0, fi1, fi2, fi3, nI_toInt, nI_add, pk_mul, nI_leI, nI_ltI, nI_eq, pk_sub, ib_nI, nI_clamp, va_up_self, va_up_ne, va_up_up, va_up_comm, pk_us, pk_un, upd_up, updL_up, pk_uLs, pk_uLn, b01_1, b01_0, b01_1s, b01_0s, or_b, hnm, e, hg, hcl, hf, oI, refuse_eq]
      exact this
    | some k =>
      have hk := fnd_lt _ _ _ hf
      obtain ⟨a0, a1, a2, a3, a4, a5, a8, a9, a7, a6⟩ := h
      simp (disch := omega) [w148_0, x148_1_2, w148_4, w148_7, w148_8, x148_9_2, w148_12, w148_13, w148_14, x148_15_2, x148_18_47, w148_21, w148_22, w148_23, w148_24, w148_27, w148_28, x148_29_2, w148_32, w148_33, x148_34_2, w148_37, w148_38, rt148, aw_st, ai_cls, ai_len, ai_p, ai_sw, ai_m, ai_c, ai_at, ai_isI, ai_isJ, ai_isA, ai_ld, ai_1i, ai_2i, ai_2l, ai_cn, ai_j, ai_set, ai_set2, ai_nl, ai_rs, ai_sm, Value.category, hk0, hk1, lits, litb, litm, litm2, List.getElem?_cons_zero, List.getElem?_cons_succ, or_n0, bit_r, fi0, fi1, fi2, fi3, nI_toInt, nI_add, pk_mul, nI_leI, nI_ltI, nI_eq, pk_sub, ib_nI, nI_clamp, va_up_self, va_up_ne, va_up_up, va_up_comm, pk_us, pk_un, upd_up, updL_up, pk_uLs, pk_uLn, b01_1, b01_0, b01_1s, b01_0s, or_b, hnm, e, hg, hcl, hf, oI, nI_mi1]
      refine step_wp (flt := flt) a0 a1 a2 a3 a9 hT hn hl (tA_le hi) (fun f' g' r => ?_)
      have := hQ3 e k hf (by omega) f' g' r
      simp (disch := omega) [w148_0, x148_1_2, w148_4, w148_7, w148_8, x148_9_2, w148_12, w148_13, w148_14, x148_15_2, x148_18_47, w148_21, w148_22, w148_23, w148_24, w148_27, w148_28, x148_29_2, w148_32, w148_33, x148_34_2, w148_37, w148_38, rt148, aw_st, ai_cls, ai_len, ai_p, ai_sw, ai_m, ai_c, ai_at, ai_isI, ai_isJ, ai_isA, ai_ld, ai_1i, ai_2i, ai_2l, ai_cn, ai_j, ai_set, ai_set2, ai_nl, ai_rs, ai_sm, Value.category, hk0, hk1, lits, litb, litm, litm2, List.getElem?_cons_zero, List.getElem?_cons_succ, or_n0, bit_r, fi0, fi1, fi2, fi3, nI_toInt, nI_add, pk_mul, nI_leI, nI_ltI, nI_eq, pk_sub, ib_nI, nI_clamp, va_up_self, va_up_ne, va_up_up, va_up_comm, pk_us, pk_un, upd_up, updL_up, pk_uLs, pk_uLn, b01_1, b01_0, b01_1s, b01_0s, or_b]
      exact this
end TKF
