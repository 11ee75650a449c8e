/-! A TOWN, the class -/
section TWR2
variable {G : ai_G} {d sl : Nat} {Q : List Value → Nat → Nat → ai_M → Prop} {Y : mY} {X : mX} {c : TC} {i P S n : Nat} {t : Nat → Nat}
theorem F19.tr {X X' X2 : mX} (h : F19 X X') (h2 : F19 X' X2) : F19 X X2 := fun k hk => (h2 k hk).trans (h k hk)
def Z8 (X : mX) (i : Nat) : Prop := ∀ q, q < i → X 20 q = nI 0 ∧ X 21 q = nI 0 ∧ X 22 q = nI 0 ∧ X 23 q = nI 0 ∧ X 25 q = nI 0 ∧ X 26 q = nI 0
set_option maxHeartbeats 8000000 in
set_option maxRecDepth 40000 in
theorem lclear_rows : ∀ (r i : Nat) (X : mX), i + r = 8 → Z8 X i → (∀ X', F19 X X' → Z8 X' 8 → aw ET G d 28 56 [some (.ref 19), some (.int (nI 8))] [] 231 sl (mem X' Y) Q) → aw ET G d 28 2 [some (.ref 19), some (.int (nI i))] [] 231 sl (mem X Y) Q := by
  intro r
  induction r with
  | zero =>
    intro i X hi h0 hQ
    have : i = 8 := by omega
    subst this
    have := hQ X (fun _ _ => rfl) h0
    simp (disch := omega) [w28_2, w28_3, w28_5, aw_st, ai_cls, ai_len, ai_p, ai_sw, ai_m, ai_c, ai_at, ai_isI, ai_isJ, ai_isA, ai_ld, ai_1i, ai_2i, ai_2l, ai_cn, ai_j, ai_set, ai_set2, ai_nl, ai_rs, ai_sm, Value.category, hk0, hk1, lits, litb, litm, litm2, List.getElem?_cons_zero, List.getElem?_cons_succ, or_n0, bit_r, fi0, fi1, fi2, fi3, nI_toInt, nI_add, pk_mul, nI_leI, nI_ltI, nI_eq, pk_sub, ib_nI, nI_clamp, va_up_self, va_up_ne, va_up_up, va_up_comm, pk_us, pk_un, upd_up, updL_up, pk_uLs, pk_uLn, b01_1, b01_0, b01_1s, b01_0s, or_b]
    exact this
  | succ r ih =>
    intro i X hi h0 hQ
    have := ih (i + 1) (va_up (va_up (va_up (va_up (va_up (va_up X 20 (upd (X 20) i (nI 0))) 21 (upd (X 21) i (nI 0))) 22 (upd (X 22) i (nI 0))) 23 (upd (X 23) i (nI 0))) 25 (upd (X 25) i (nI 0))) 26 (upd (X 26) i (nI 0))) (by omega) (fun q hq => by
      simp (disch := omega) only [va_up_ne, va_up_self]
      by_cases e : q = i
      · subst e; simp [upd]
      · simp only [pk_un e]; exact h0 q (by omega)) (fun X' hf hz => by
      refine hQ X' (F19.tr (fun k hk => ?_) hf) hz
      simp only [va_up, show ¬ k = 20 by omega, show ¬ k = 21 by omega, show ¬ k = 22 by omega, show ¬ k = 23 by omega, show ¬ k = 25 by omega, show ¬ k = 26 by omega, if_false])
    rw [w28_2]
    simp (disch := omega) [w28_0, w28_1, w28_3, w28_5, w28_8, x28_9_19, w28_12, w28_13, w28_14, w28_15, x28_16_19, w28_19, w28_20, w28_21, w28_22, x28_23_19, w28_26, w28_27, w28_28, w28_29, x28_30_19, w28_33, w28_34, w28_35, w28_36, x28_37_19, w28_40, w28_41, w28_42, w28_43, x28_44_19, w28_47, w28_48, w28_49, w28_50, w28_53, w28_57, w28_59, w28_61, w28_64, x28_65_19, w28_68, w28_69, w28_70, w28_71, w28_74, w28_77, w28_78, x28_79_19, w28_82, w28_83, x28_84_19, w28_87, w28_88, x28_89_19, w28_92, w28_93, x28_94_19, w28_97, w28_98, x28_99_19, w28_102, rt28, aw_st, ai_cls, ai_len, ai_p, ai_sw, ai_m, ai_c, ai_at, ai_isI, ai_isJ, ai_isA, ai_ld, ai_1i, ai_2i, ai_2l, ai_cn, ai_j, ai_set, ai_set2, ai_nl, ai_rs, ai_sm, Value.category, hk0, hk1, lits, litb, litm, litm2, List.getElem?_cons_zero, List.getElem?_cons_succ, or_n0, bit_r, fi0, fi1, fi2, fi3, nI_toInt, nI_add, pk_mul, nI_leI, nI_ltI, nI_eq, pk_sub, ib_nI, nI_clamp, va_up_self, va_up_ne, va_up_up, va_up_comm, pk_us, pk_un, upd_up, updL_up, pk_uLs, pk_uLn, b01_1, b01_0, b01_1s, b01_0s, or_b, mm20, mu20, mm21, mu21, mm22, mu22, mm23, mu23, mm25, mu25, mm26, mu26, show ¬ 8 ≤ i by omega]
    exact this
def ZL (X : mX) : Prop := Z8 X 8 ∧ (∀ q, q < 64 → X 24 q = nI 0) ∧ X 19 9 = nI 0 ∧ X 19 10 = nI 0 ∧ X 19 11 = nI 0 ∧ X 19 12 = nI 0 ∧ X 19 13 = nI 0
set_option maxHeartbeats 4000000 in
theorem lclear_wp (hQ : ∀ X', F19 X X' → ZL X' → Q [] 231 sl (mem X' Y)) : aw ET G d 28 0 [some (.ref 19), none] [] 231 sl (mem X Y) Q := by
  have := lclear_rows (G := G) (d := d) (sl := sl) (Q := Q) (Y := Y) 8 0 X (by omega) (fun q hq => by omega) (fun X1 f1 z1 => by
    have := lclear_notes (G := G) (d := d) (sl := sl) (Q := Q) (Y := Y) 64 0 X1 (by omega) (fun q hq => by omega) (fun h hh => by
      refine hQ _ (F19.tr f1 (fun k hk => by simp only [va_up, show ¬ k = 19 by omega, show ¬ k = 24 by omega, if_false])) ⟨?_, ?_, ?_, ?_, ?_, ?_, ?_⟩
      · intro q hq
        simp (disch := omega) only [va_up_ne]
        exact z1 q hq
      · intro q hq
        simp only [va_up_self]
        exact hh q hq
      all_goals simp [va_up, upd])
    simp (disch := omega) [w28_56, w28_57, aw_st, ai_cls, ai_len, ai_p, ai_sw, ai_m, ai_c, ai_at, ai_isI, ai_isJ, ai_isA, ai_ld, ai_1i, ai_2i, ai_2l, ai_cn, ai_j, ai_set, ai_set2, ai_nl, ai_rs, ai_sm, Value.category, hk0, hk1, lits, litb, litm, litm2, List.getElem?_cons_zero, List.getElem?_cons_succ, or_n0, bit_r, fi0, fi1, fi2, fi3, nI_toInt, nI_add, pk_mul, nI_leI, nI_ltI, nI_eq, pk_sub, ib_nI, nI_clamp, va_up_self, va_up_ne, va_up_up, va_up_comm, pk_us, pk_un, upd_up, updL_up, pk_uLs, pk_uLn, b01_1, b01_0, b01_1s, b01_0s, or_b]
    exact this)
  simp (disch := omega) [w28_0, w28_1, aw_st, ai_cls, ai_len, ai_p, ai_sw, ai_m, ai_c, ai_at, ai_isI, ai_isJ, ai_isA, ai_ld, ai_1i, ai_2i, ai_2l, ai_cn, ai_j, ai_set, ai_set2, ai_nl, ai_rs, ai_sm, Value.category, hk0, hk1, lits, litb, litm, litm2, List.getElem?_cons_zero, List.getElem?_cons_succ, or_n0, bit_r, fi0, fi1, fi2, fi3, nI_toInt, nI_add, pk_mul, nI_leI, nI_ltI, nI_eq, pk_sub, ib_nI, nI_clamp, va_up_self, va_up_ne, va_up_up, va_up_comm, pk_us, pk_un, upd_up, updL_up, pk_uLs, pk_uLn, b01_1, b01_0, b01_1s, b01_0s, or_b]
  exact this
/-- what a TOWN's text begins with -/
def E0 (D : TD) : Prop := (∀ j, j < 132 → D.1 j = if j = 3 then nI 10 else nI 0) ∧ D.2.2.1 = false ∧ D.2.2.2 = false
set_option maxHeartbeats 4000000 in
theorem pclear_wp (hQ : ∀ X', (∀ k, k < 6 ∨ 28 ≤ k → X' k = X k) → X' 6 7 = nI 0 → X' 6 8 = nI 0 → X' 6 9 = nI 0 → X' 6 10 = nI 0 → X' 6 11 = nI 0 → X' 6 12 = nI 10 → ZL X' → X' 14 4 = nI 0 → X' 14 5 = nI 0 → Q [] 231 sl (mem X' Y)) : aw ET G (d + 1) 26 0 [some (.ref 5)] [] 231 sl (mem X Y) Q := by
  simp (disch := omega) [w26_0, x26_1_5, x26_4_6, w26_7, x26_8_5, x26_11_19, w26_14, x26_15_5, x26_18_14, w26_21, rt26, aw_st, ai_cls, ai_len, ai_p, ai_sw, ai_m, ai_c, ai_at, ai_isI, ai_isJ, ai_isA, ai_ld, ai_1i, ai_2i, ai_2l, ai_cn, ai_j, ai_set, ai_set2, ai_nl, ai_rs, ai_sm, Value.category, hk0, hk1, lits, litb, litm, litm2, List.getElem?_cons_zero, List.getElem?_cons_succ, or_n0, bit_r, fi0, fi1, fi2, fi3, nI_toInt, nI_add, pk_mul, nI_leI, nI_ltI, nI_eq, pk_sub, ib_nI, nI_clamp, va_up_self, va_up_ne, va_up_up, va_up_comm, pk_us, pk_un, upd_up, updL_up, pk_uLs, pk_uLn, b01_1, b01_0, b01_1s, b01_0s, or_b, cclear_6]
  refine lclear_wp (fun X' hf hz => ?_)
  have h6 := hf 6 (by omega)
  rw [va_up_self] at h6
  have := hQ (va_up X' 14 (upd (upd (X' 14) 4 (nI 0)) 5 (nI 0))) (fun k hk => by
    rw [va_up_ne _ _ (by omega), hf k (by omega), va_up_ne _ _ (by omega)]) (by rw [va_up_ne _ _ (by omega), h6]; simp [upd]) (by rw [va_up_ne _ _ (by omega), h6]; simp [upd]) (by rw [va_up_ne _ _ (by omega), h6]; simp [upd]) (by rw [va_up_ne _ _ (by omega), h6]; simp [upd]) (by rw [va_up_ne _ _ (by omega), h6]; simp [upd]) (by rw [va_up_ne _ _ (by omega), h6]; simp [upd]) hz (by simp [va_up, upd]) (by simp [va_up, upd])
  simp (disch := omega) [w26_0, x26_1_5, x26_4_6, w26_7, x26_8_5, x26_11_19, w26_14, x26_15_5, x26_18_14, w26_21, rt26, aw_st, ai_cls, ai_len, ai_p, ai_sw, ai_m, ai_c, ai_at, ai_isI, ai_isJ, ai_isA, ai_ld, ai_1i, ai_2i, ai_2l, ai_cn, ai_j, ai_set, ai_set2, ai_nl, ai_rs, ai_sm, Value.category, hk0, hk1, lits, litb, litm, litm2, List.getElem?_cons_zero, List.getElem?_cons_succ, or_n0, bit_r, fi0, fi1, fi2, fi3, nI_toInt, nI_add, pk_mul, nI_leI, nI_ltI, nI_eq, pk_sub, ib_nI, nI_clamp, va_up_self, va_up_ne, va_up_up, va_up_comm, pk_us, pk_un, upd_up, updL_up, pk_uLs, pk_uLn, b01_1, b01_0, b01_1s, b01_0s, or_b, sclear_14]
  exact this
set_option maxHeartbeats 4000000 in
theorem open_wp {lim : Nat} (hT : TB8 (X 1) t) (hn : n ≤ 940) (hl : lim ≤ 940) (hQ : ∀ f' g', RDC (t, n, lim) 0 f' g' (nI 0) → Q [] 231 sl (mem (va_up X 2 f') (va_up Y 2 g'))) : aw ET G (d + 3) 17 0 [some (.ref 2), some (.ref 1), some (.int (nI n)), some (.int (nI lim))] [] 231 sl (mem X Y) Q := by
  have hst : ∀ (Q : List Value → Nat → Nat → ai_M → Prop), (∀ f' g', RDC (t, n, lim) 0 f' g' (nI 0) → Q [] 231 sl (mem (va_up X 2 f') (va_up Y 2 g'))) → aw ET G (d + 2) 18 0 [some (.ref 2), none] [] 231 sl (mem (va_up X 2 (upd (upd (upd (upd (upd (X 2) 0 (nI 1)) 1 (nI n)) 2 (nI lim)) 3 (nI 0)) 9 (nI 0))) Y) Q := by
    intro Q h
    have := step_wp (G := G) (d := d) (sl := sl) (Q := Q) (Y := Y) (X := X) (t := t) (n := n) (lim := lim) (i := 0) (flt := nI 0) (g := Y 2) (f := upd (upd (upd (upd (upd (X 2) 0 (nI 1)) 1 (nI n)) 2 (nI lim)) 3 (nI 0)) 9 (nI 0)) (by simp [upd]) (by simp [upd]) (by simp [upd]) (by simp [upd]) (by simp [upd]) hT hn hl (by omega) h
    rw [va_id] at this
    exact this
  have e940 : (940 : Int32) = nI 940 := rfl
  simp (disch := omega) [w17_0, w17_1, x17_2, w17_5, w17_6, w17_7, w17_8, w17_9, x17_12, w17_15, w17_16, x17_17, w17_20, w17_21, x17_22, w17_25, w17_26, x17_27, w17_30, x17_31_2, w17_34, rt17, ow17, pl7_44, aw_st, ai_cls, ai_len, ai_p, ai_sw, ai_m, ai_c, ai_at, ai_isI, ai_isJ, ai_isA, ai_ld, ai_1i, ai_2i, ai_2l, ai_cn, ai_j, ai_set, ai_set2, ai_nl, ai_rs, ai_sm, Value.category, hk0, hk1, lits, litb, litm, litm2, List.getElem?_cons_zero, List.getElem?_cons_succ, or_n0, bit_r, fi0, fi1, fi2, fi3, nI_toInt, nI_add, pk_mul, nI_leI, nI_ltI, nI_eq, pk_sub, ib_nI, nI_clamp, va_up_self, va_up_ne, va_up_up, va_up_comm, pk_us, pk_un, upd_up, updL_up, pk_uLs, pk_uLn, b01_1, b01_0, b01_1s, b01_0s, or_b, mm1, e940, show ¬ 940 < n by omega]
  refine hst _ (fun f' g' r => ?_)
  have := hQ f' g' r
  simp (disch := omega) [w17_0, w17_1, x17_2, w17_5, w17_6, w17_7, w17_8, w17_9, x17_12, w17_15, w17_16, x17_17, w17_20, w17_21, x17_22, w17_25, w17_26, x17_27, w17_30, x17_31_2, w17_34, rt17, ow17, pl7_44, aw_st, ai_cls, ai_len, ai_p, ai_sw, ai_m, ai_c, ai_at, ai_isI, ai_isJ, ai_isA, ai_ld, ai_1i, ai_2i, ai_2l, ai_cn, ai_j, ai_set, ai_set2, ai_nl, ai_rs, ai_sm, Value.category, hk0, hk1, lits, litb, litm, litm2, List.getElem?_cons_zero, List.getElem?_cons_succ, or_n0, bit_r, fi0, fi1, fi2, fi3, nI_toInt, nI_add, pk_mul, nI_leI, nI_ltI, nI_eq, pk_sub, ib_nI, nI_clamp, va_up_self, va_up_ne, va_up_up, va_up_comm, pk_us, pk_un, upd_up, updL_up, pk_uLs, pk_uLn, b01_1, b01_0, b01_1s, b01_0s, or_b]
  exact this
set_option maxHeartbeats 4000000 in
theorem openTape_wp {lim : Nat} (hT : TB8 (X 1) t) (h15 : X 0 15 = nI n) (hn : n ≤ 940) (hl : lim ≤ 940) (hQ : ∀ f' g', RDC (t, n, lim) 0 f' g' (nI 0) → Q [] 231 sl (mem (va_up (va_up X 0 (upd (X 0) 15 (nI 0))) 2 f') (va_up Y 2 g'))) : aw ET G (d + 4) 16 0 [some (.ref 0), some (.int (nI lim))] [] 231 sl (mem X Y) Q := by
  simp (disch := omega) [w16_0, x16_1_0, w16_4, x16_5_0, w16_8, x16_9_0, w16_12, x16_13_2, w16_16, w16_17, x16_18, w16_21, rt16, aw_st, ai_cls, ai_len, ai_p, ai_sw, ai_m, ai_c, ai_at, ai_isI, ai_isJ, ai_isA, ai_ld, ai_1i, ai_2i, ai_2l, ai_cn, ai_j, ai_set, ai_set2, ai_nl, ai_rs, ai_sm, Value.category, hk0, hk1, lits, litb, litm, litm2, List.getElem?_cons_zero, List.getElem?_cons_succ, or_n0, bit_r, fi0, fi1, fi2, fi3, nI_toInt, nI_add, pk_mul, nI_leI, nI_ltI, nI_eq, pk_sub, ib_nI, nI_clamp, va_up_self, va_up_ne, va_up_up, va_up_comm, pk_us, pk_un, upd_up, updL_up, pk_uLs, pk_uLn, b01_1, b01_0, b01_1s, b01_0s, or_b, h15]
  refine open_wp hT hn hl (fun f' g' r => ?_)
  have := hQ f' g' r
  simp (disch := omega) [w16_0, x16_1_0, w16_4, x16_5_0, w16_8, x16_9_0, w16_12, x16_13_2, w16_16, w16_17, x16_18, w16_21, rt16, aw_st, ai_cls, ai_len, ai_p, ai_sw, ai_m, ai_c, ai_at, ai_isI, ai_isJ, ai_isA, ai_ld, ai_1i, ai_2i, ai_2l, ai_cn, ai_j, ai_set, ai_set2, ai_nl, ai_rs, ai_sm, Value.category, hk0, hk1, lits, litb, litm, litm2, List.getElem?_cons_zero, List.getElem?_cons_succ, or_n0, bit_r, fi0, fi1, fi2, fi3, nI_toInt, nI_add, pk_mul, nI_leI, nI_ltI, nI_eq, pk_sub, ib_nI, nI_clamp, va_up_self, va_up_ne, va_up_up, va_up_comm, pk_us, pk_un, upd_up, updL_up, pk_uLs, pk_uLn, b01_1, b01_0, b01_1s, b01_0s, or_b]
  exact this
theorem pclear2 : aw ET G d 55 0 [some (.ref 79)] [] 231 sl (mem X Y) Q = Q [] 231 sl (mem (va_up X 79 (upd (X 79) 2 (nI 0))) Y) := by
  simp (disch := omega) [w55_0, w55_1, x55_2, w55_5, rt55, aw_st, ai_cls, ai_len, ai_p, ai_sw, ai_m, ai_c, ai_at, ai_isI, ai_isJ, ai_isA, ai_ld, ai_1i, ai_2i, ai_2l, ai_cn, ai_j, ai_set, ai_set2, ai_nl, ai_rs, ai_sm, Value.category, hk0, hk1, lits, litb, litm, litm2, List.getElem?_cons_zero, List.getElem?_cons_succ, or_n0, bit_r, fi0, fi1, fi2, fi3, nI_toInt, nI_add, pk_mul, nI_leI, nI_ltI, nI_eq, pk_sub, ib_nI, nI_clamp, va_up_self, va_up_ne, va_up_up, va_up_comm, pk_us, pk_un, upd_up, updL_up, pk_uLs, pk_uLn, b01_1, b01_0, b01_1s, b01_0s, or_b]
/-- what a text that is taken leaves as it was -/
def FT (X X' : mX) : Prop := (∀ k, k = 1 ∨ 28 ≤ k → X' k = X k) ∧ X' 0 15 = nI 0 ∧ ∀ j, ¬ j = 15 → ¬ j = 16 → X' 0 j = X 0 j
set_option maxHeartbeats 8000000 in
theorem ttown_wp {D0 : TD} (hE : E0 D0) (hG : G.1 = false) (hT : TB8 (X 1) t) (h15 : X 0 15 = nI n) (hn : n ≤ 940) (hQ1 : ∀ e j, sTown (t, n, 900) 941 0 0 D0 = .inl (e, j) → ∀ X' Y', FT X X' → X' 0 16 = nI e → FY Y Y' → Q [.int (mi1 - nI (cP (t, n, 900) j))] 231 sl (mem X' Y')) (hQ2 : ∀ m D, sTown (t, n, 900) 941 0 0 D0 = .inr (m, D) → ∀ X' Y' P S, DC X' Y' D P S → FT X X' → X' 0 16 = nI 0 → X' 14 4 = nI 0 → X' 14 5 = nI 0 → FY Y Y' → Q [.int (nI m)] 231 sl (mem (va_up (plX X' 47 6 61 19 56 14) 79 (upd (plX X' 47 6 61 19 56 14 79) 2 (nI 0))) (ccY Y' 47 6))) : aw ET G (d + 7) 15 0 [some (.ref 0), none] [] 231 sl (mem X Y) Q := by
  simp (disch := omega) [w15_0, w15_1, x15_4_0, w15_7, x15_8_0, x15_11_55, x15_11_5, w15_14, x15_15_0, w15_18, x15_19_0, w15_22, x15_23_0, x15_26_4, w15_29, w15_30, w15_31, x15_32_0, x15_35_2, x15_38, w15_41, w15_42, w15_43, w15_46, w15_47, x15_48_0, x15_51_2, w15_54, w15_55, w15_56, x15_57_0, w15_60, x15_61_0, x15_64_55, x15_64_5, w15_67, x15_68_0, x15_71_79, w15_74, w15_75, rt15, aw_st, ai_cls, ai_len, ai_p, ai_sw, ai_m, ai_c, ai_at, ai_isI, ai_isJ, ai_isA, ai_ld, ai_1i, ai_2i, ai_2l, ai_cn, ai_j, ai_set, ai_set2, ai_nl, ai_rs, ai_sm, Value.category, hk0, hk1, lits, litb, litm, litm2, List.getElem?_cons_zero, List.getElem?_cons_succ, or_n0, bit_r, fi0, fi1, fi2, fi3, nI_toInt, nI_add, pk_mul, nI_leI, nI_ltI, nI_eq, pk_sub, ib_nI, nI_clamp, va_up_self, va_up_ne, va_up_up, va_up_comm, pk_us, pk_un, upd_up, updL_up, pk_uLs, pk_uLn, b01_1, b01_0, b01_1s, b01_0s, or_b]
  refine openTape_wp (d := d + 2) hT h15 hn (by omega) (fun f1 g1 r1 => ?_)
  simp (disch := omega) [w15_0, w15_1, x15_4_0, w15_7, x15_8_0, x15_11_55, x15_11_5, w15_14, x15_15_0, w15_18, x15_19_0, w15_22, x15_23_0, x15_26_4, w15_29, w15_30, w15_31, x15_32_0, x15_35_2, x15_38, w15_41, w15_42, w15_43, w15_46, w15_47, x15_48_0, x15_51_2, w15_54, w15_55, w15_56, x15_57_0, w15_60, x15_61_0, x15_64_55, x15_64_5, w15_67, x15_68_0, x15_71_79, w15_74, w15_75, rt15, aw_st, ai_cls, ai_len, ai_p, ai_sw, ai_m, ai_c, ai_at, ai_isI, ai_isJ, ai_isA, ai_ld, ai_1i, ai_2i, ai_2l, ai_cn, ai_j, ai_set, ai_set2, ai_nl, ai_rs, ai_sm, Value.category, hk0, hk1, lits, litb, litm, litm2, List.getElem?_cons_zero, List.getElem?_cons_succ, or_n0, bit_r, fi0, fi1, fi2, fi3, nI_toInt, nI_add, pk_mul, nI_leI, nI_ltI, nI_eq, pk_sub, ib_nI, nI_clamp, va_up_self, va_up_ne, va_up_up, va_up_comm, pk_us, pk_un, upd_up, updL_up, pk_uLs, pk_uLn, b01_1, b01_0, b01_1s, b01_0s, or_b]
  refine pclear_wp (d := d + 5) (fun X1 k1 k7 k8 k9 k10 k11 k12 kz k4 k5 => ?_)
  simp (disch := omega) [w15_0, w15_1, x15_4_0, w15_7, x15_8_0, x15_11_55, x15_11_5, w15_14, x15_15_0, w15_18, x15_19_0, w15_22, x15_23_0, x15_26_4, w15_29, w15_30, w15_31, x15_32_0, x15_35_2, x15_38, w15_41, w15_42, w15_43, w15_46, w15_47, x15_48_0, x15_51_2, w15_54, w15_55, w15_56, x15_57_0, w15_60, x15_61_0, x15_64_55, x15_64_5, w15_67, x15_68_0, x15_71_79, w15_74, w15_75, rt15, aw_st, ai_cls, ai_len, ai_p, ai_sw, ai_m, ai_c, ai_at, ai_isI, ai_isJ, ai_isA, ai_ld, ai_1i, ai_2i, ai_2l, ai_cn, ai_j, ai_set, ai_set2, ai_nl, ai_rs, ai_sm, Value.category, hk0, hk1, lits, litb, litm, litm2, List.getElem?_cons_zero, List.getElem?_cons_succ, or_n0, bit_r, fi0, fi1, fi2, fi3, nI_toInt, nI_add, pk_mul, nI_leI, nI_ltI, nI_eq, pk_sub, ib_nI, nI_clamp, va_up_self, va_up_ne, va_up_up, va_up_comm, pk_us, pk_un, upd_up, updL_up, pk_uLs, pk_uLn, b01_1, b01_0, b01_1s, b01_0s, or_b]
  have e2 : X1 2 = f1 := by rw [k1 2 (by omega)]; simp [va_up]
  have e1 : X1 1 = X 1 := by rw [k1 1 (by omega)]; simp [va_up]
  have e0 : X1 0 = upd (X 0) 15 (nI 0) := by rw [k1 0 (by omega)]; simp [va_up]
  have hD : ∀ h4, DC (va_up X1 4 (upd (upd h4 0 (nI 0)) 1 (nI 0))) (va_up Y 2 g1) D0 0 0 := by
    intro h4
    obtain ⟨z8, z24, z9, z10, z11, z12, z13⟩ := kz
    have dz : ∀ j, j < 132 → ¬ j = 3 → D0.1 j = nI 0 := fun j h1 hj => by rw [hE.1 j h1, if_neg hj]
    have nz : ∀ (v : Nat) (j : Nat), j < 132 → ¬ j = 3 → ∃ u, u ≤ v ∧ D0.1 j = nI u := fun v j h1 hj => ⟨0, by omega, dz j h1 hj⟩
    have d3 : D0.1 3 = nI 10 := by rw [hE.1 3 (by omega), if_pos rfl]
    have hb0 : ∀ p, p < 8 → (nI 0 : Int32) = b01 (bit (nI 0) (nI p) = 1) := by decide +kernel
    refine ⟨⟨by omega, by omega, dz 0 (by omega) (by omega), dz 1 (by omega) (by omega), ?_, ?_, ⟨fun q hq => by omega, fun q hq => by omega⟩, ?_, ?_, ?_, ?_⟩, ⟨?_, ?_, fun p hp => by omega, fun p hp => by omega, fun p hp => by omega, fun p hp => by omega, fun p hp => by omega, ?_, ?_, ?_, ?_⟩, ⟨nz 9 2 (by omega) (by omega), ⟨10, by omega, by omega, d3⟩, fun p hp => nz _ _ (by omega) (by omega), fun p hp => nz _ _ (by omega) (by omega), fun p hp => nz _ _ (by omega) (by omega), fun p hp => by omega, fun p hp => nz _ _ (by omega) (by omega), fun p hp => nz _ _ (by omega) (by omega), fun p hp => nz _ _ (by omega) (by omega)⟩, ?_, ?_⟩
    · simp (disch := omega) only [va_up_ne]; exact k7
    · simp (disch := omega) only [va_up_ne]; exact k8
    · simp (disch := omega) only [va_up_ne]; rw [k11, dz 2 (by omega) (by omega)]
    · simp (disch := omega) only [va_up_ne]; rw [k12, d3]
    · rw [hE.2.1]; simp [va_up, upd, b01]; rfl
    · rw [hE.2.2]; simp [va_up, upd, b01]; rfl
    · intro p hp; rw [va_up_ne _ _ (by omega), k9, dz _ (by omega) (by omega)]; exact hb0 p hp
    · intro p hp; rw [va_up_ne _ _ (by omega), k10, dz _ (by omega) (by omega)]; exact hb0 p hp
    · intro p hp; rw [va_up_ne _ _ (by omega), (z8 p hp).1, dz _ (by omega) (by omega)]
    · intro p hp; rw [va_up_ne _ _ (by omega), (z8 p hp).2.1, dz _ (by omega) (by omega)]
    · intro p hp; rw [va_up_ne _ _ (by omega), z24 p hp, dz _ (by omega) (by omega)]
    · intro p hp; rw [va_up_ne _ _ (by omega), (z8 p hp).2.2.2.2.2, if_neg (by omega)]
    · intro p hp; rw [va_up_ne _ _ (by omega), va_up_ne _ _ (by omega), va_up_ne _ _ (by omega)]; exact ⟨(z8 p hp).2.2.1, (z8 p hp).2.2.2.1, (z8 p hp).2.2.2.2.1⟩
    · rw [va_up_ne _ _ (by omega)]; exact ⟨z9, z10, z11, z12, z13⟩
  have hok : OKc (t, n, 900) (va_up X1 4 (upd (upd (X1 4) 0 (nI 0)) 1 (nI 0))) := ⟨by rw [va_up_ne _ _ (by omega), e1]; exact hT, hn, by show 900 ≤ 940; omega⟩
  have hrd : RDC (t, n, 900) 0 (va_up X1 4 (upd (upd (X1 4) 0 (nI 0)) 1 (nI 0)) 2) (va_up Y 2 g1 2) (nI 0) := by rw [va_up_ne _ _ (by omega), va_up_self, e2]; exact r1
  have hloop := fun (Q : List Value → Nat → Nat → ai_M → Prop) => rTown_loop (G := G) (d := d) (sl := sl) (Q := Q) 941 0 0 D0 _ _ 0 0 (by omega) hrd hok (by show 0 ≤ n; omega) (hD (X1 4))
  have hrt : ∀ (Q : List Value → Nat → Nat → ai_M → Prop), (∀ e j, sTown (t, n, 900) 941 0 0 D0 = .inl (e, j) → ∀ X' Y', FR (va_up X1 4 (upd (upd (X1 4) 0 (nI 0)) 1 (nI 0))) X' → FY (va_up Y 2 g1) Y' → RDC (t, n, 900) j (X' 2) (Y' 2) (nI e) → Q [.int mi1] 231 sl (mem X' Y')) → (∀ m' D', sTown (t, n, 900) 941 0 0 D0 = .inr (m', D') → m' < 1000 → ∀ X' Y' P' S', DC X' Y' D' P' S' → FR (va_up X1 4 (upd (upd (X1 4) 0 (nI 0)) 1 (nI 0))) X' → FY (va_up Y 2 g1) Y' → X' 2 9 = nI 0 → Q [.int (nI m')] 231 sl (mem X' Y')) → aw ET G (d + 6) 30 0 [some (.ref 4), some (.ref 2), some (.ref 5), none] [] 231 sl (mem X1 (va_up Y 2 g1)) Q := by
    intro Q q1 q2
    have := hloop Q q1 q2
    simp (disch := omega) [w30_0, w30_1, x30_2 (v := nI 0) (Or.inl rfl), x30_2 (v := nI 1) (Or.inr rfl), w30_5, w30_6, x30_7 (v := nI 0) (Or.inl rfl), x30_7 (v := nI 1) (Or.inr rfl), w30_10, w30_11, w30_13, w30_16, w30_19, x30_20_2, w30_23, w30_26, w30_27, w30_28, w30_29, w30_30, x30_31_5, w30_34, x30_35_5, x30_38_4, w30_41, w30_44, w30_45, x30_47_2, w30_50, w30_53, w30_54, w30_55, w30_58, w30_61, w30_62, x30_63_2, w30_66, rt30, aw_st, ai_cls, ai_len, ai_p, ai_sw, ai_m, ai_c, ai_at, ai_isI, ai_isJ, ai_isA, ai_ld, ai_1i, ai_2i, ai_2l, ai_cn, ai_j, ai_set, ai_set2, ai_nl, ai_rs, ai_sm, Value.category, hk0, hk1, lits, litb, litm, litm2, List.getElem?_cons_zero, List.getElem?_cons_succ, or_n0, bit_r, fi0, fi1, fi2, fi3, nI_toInt, nI_add, pk_mul, nI_leI, nI_ltI, nI_eq, pk_sub, ib_nI, nI_clamp, va_up_self, va_up_ne, va_up_up, va_up_comm, pk_us, pk_un, upd_up, updL_up, pk_uLs, pk_uLn, b01_1, b01_0, b01_1s, b01_0s, or_b]
    exact this
  have hft : ∀ X', FR (va_up X1 4 (upd (upd (X1 4) 0 (nI 0)) 1 (nI 0))) X' → ∀ v, FT X (va_up X' 0 (upd (X' 0) 16 v)) := by
    intro X' f v
    have h0 : X' 0 = upd (X 0) 15 (nI 0) := by rw [f 0 (by omega), va_up_ne _ _ (by omega), e0]
    refine ⟨fun k hk => ?_, ?_, fun j j1 j2 => ?_⟩
    · rw [va_up_ne _ _ (by omega), f k (by omega), va_up_ne _ _ (by omega), k1 k (by omega), va_up_ne _ _ (by omega), va_up_ne _ _ (by omega)]
    · rw [va_up_self, h0]; simp [upd]
    · rw [va_up_self, h0, pk_un j2, pk_un j1]
  refine hrt _ (fun e j es X' Y' f g r => ?_) (fun m D es hm X' Y' P S hD f g r9 => ?_)
  · have h9 : X' 2 9 = nI e := r.2.2.2.2.2.2.2.1
    have h5 : X' 2 5 = nI (cP (t, n, 900) j) := r.2.2.2.2.2.1
    have := hQ1 e j es (va_up X' 0 (upd (X' 0) 16 (nI e))) Y' (hft X' f _) (by simp [va_up, upd]) (FY.tr FY_2 g)
    simp (disch := omega) [w15_0, w15_1, x15_4_0, w15_7, x15_8_0, x15_11_55, x15_11_5, w15_14, x15_15_0, w15_18, x15_19_0, w15_22, x15_23_0, x15_26_4, w15_29, w15_30, w15_31, x15_32_0, x15_35_2, x15_38, w15_41, w15_42, w15_43, w15_46, w15_47, x15_48_0, x15_51_2, w15_54, w15_55, w15_56, x15_57_0, w15_60, x15_61_0, x15_64_55, x15_64_5, w15_67, x15_68_0, x15_71_79, w15_74, w15_75, rt15, aw_st, ai_cls, ai_len, ai_p, ai_sw, ai_m, ai_c, ai_at, ai_isI, ai_isJ, ai_isA, ai_ld, ai_1i, ai_2i, ai_2l, ai_cn, ai_j, ai_set, ai_set2, ai_nl, ai_rs, ai_sm, Value.category, hk0, hk1, lits, litb, litm, litm2, List.getElem?_cons_zero, List.getElem?_cons_succ, or_n0, bit_r, fi0, fi1, fi2, fi3, nI_toInt, nI_add, pk_mul, nI_leI, nI_ltI, nI_eq, pk_sub, ib_nI, nI_clamp, va_up_self, va_up_ne, va_up_up, va_up_comm, pk_us, pk_un, upd_up, updL_up, pk_uLs, pk_uLn, b01_1, b01_0, b01_1s, b01_0s, or_b, h9, h5]
    exact this
  · have h14 : X' 14 = X1 14 := by rw [f 14 (by omega), va_up_ne _ _ (by omega)]
    have hDx : DC (va_up X' 0 (upd (X' 0) 16 (nI 0))) Y' D P S := hD
    have := hQ2 m D es (va_up X' 0 (upd (X' 0) 16 (nI 0))) Y' P S hDx (hft X' f _) (by simp [va_up, upd]) (by rw [va_up_ne _ _ (by omega), h14]; exact k4) (by rw [va_up_ne _ _ (by omega), h14]; exact k5) (FY.tr FY_2 g)
    have hpc := fun (Q : List Value → Nat → Nat → ai_M → Prop) => pcopy_55_5 (G := G) (d := d + 4) (sl := sl) (Q := Q) (X := va_up X' 0 (upd (X' 0) 16 (nI 0))) (Y := Y') hG
    simp (disch := omega) [w15_0, w15_1, x15_4_0, w15_7, x15_8_0, x15_11_55, x15_11_5, w15_14, x15_15_0, w15_18, x15_19_0, w15_22, x15_23_0, x15_26_4, w15_29, w15_30, w15_31, x15_32_0, x15_35_2, x15_38, w15_41, w15_42, w15_43, w15_46, w15_47, x15_48_0, x15_51_2, w15_54, w15_55, w15_56, x15_57_0, w15_60, x15_61_0, x15_64_55, x15_64_5, w15_67, x15_68_0, x15_71_79, w15_74, w15_75, rt15, aw_st, ai_cls, ai_len, ai_p, ai_sw, ai_m, ai_c, ai_at, ai_isI, ai_isJ, ai_isA, ai_ld, ai_1i, ai_2i, ai_2l, ai_cn, ai_j, ai_set, ai_set2, ai_nl, ai_rs, ai_sm, Value.category, hk0, hk1, lits, litb, litm, litm2, List.getElem?_cons_zero, List.getElem?_cons_succ, or_n0, bit_r, fi0, fi1, fi2, fi3, nI_toInt, nI_add, pk_mul, nI_leI, nI_ltI, nI_eq, pk_sub, ib_nI, nI_clamp, va_up_self, va_up_ne, va_up_up, va_up_comm, pk_us, pk_un, upd_up, updL_up, pk_uLs, pk_uLn, b01_1, b01_0, b01_1s, b01_0s, or_b, r9, nI_mi1, hpc, pclear2]
    exact this
end TWR2
