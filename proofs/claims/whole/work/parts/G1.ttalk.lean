/-! TALKED: the class, in all -/
section TTX
variable {G : ai_G} {d sl : Nat} {Y : mY} {P : Nat} {Q : List Value → Nat → Nat → ai_M → Prop} {X : mX} {t : Nat → Nat}
/-- what TALKED of the class leaves as it was -/
def TG (X X' : mX) : Prop := ∀ j, ¬ (42 ≤ j ∧ j ≤ 45) → X' j = X j
set_option maxHeartbeats 8000000 in
theorem countSets_wp (hG : G.1 = false) (hP : 0 < P) (hP6 : P ≤ 6) (hT : TB8 (X 1) t) (hQ : ∀ X' b, (∀ q, q < P → b q = balT t q) → TG X X' → KF X X' P (s3T P b) → Q [.int (nI (s3T P b).1)] 231 sl (mem X' Y)) : aw ET G (d + 6) 122 0 [some (.ref 42), some (.ref 1), some (.int (nI P)), none] [] 231 sl (mem X Y) Q := by
  have hmin : ¬ nI 6 < nI P := by rw [nI_ltI (by omega) (by omega)]; omega
  simp (disch := omega) [w122_0, w122_1, w122_2, w122_4, x122_7, w122_10, w122_11, x122_12, w122_15, w122_16, rt122, ow122, pl9_34, rt122, aw_st, ai_cls, ai_len, ai_p, ai_sw, ai_m, ai_c, ai_at, ai_isI, ai_isJ, ai_isA, ai_ld, ai_1i, ai_2i, ai_2l, ai_cn, ai_j, ai_set, ai_set2, ai_nl, ai_rs, ai_sm, Value.category, hk0, hk1, lits, litb, litm, litm2, List.getElem?_cons_zero, List.getElem?_cons_succ, or_n0, bit_r, fi0, fi1, fi2, fi3, nI_toInt, nI_add, pk_mul, nI_leI, nI_ltI, nI_eq, ib_nI, nI_clamp, va_up_self, va_up_ne, va_up_up, va_up_comm, pk_us, pk_un, upd_up, updL_up, pk_uLs, pk_uLn, b01_1, b01_0, b01_1s, b01_0s, or_b, hmin, show ¬ 6 < P by omega]
  refine sets_fill (X0 := X) (t := t) hP6 hT P 0 (X 43) _ (by omega) (by rw [va_up_ne _ _ (by omega)]) (by rw [va_up_self]; simp [upd]) hT (by rw [va_up_ne _ _ (by omega)]) (fun q hq => by omega) (fun b hb => ?_)
  generalize eX : va_up (va_up X 42 (upd (upd (X 42) 5 (nI P)) 6 (nI 0))) 43 b = X1
  have e42 : X1 42 = upd (upd (X 42) 5 (nI P)) 6 (nI 0) := by rw [← eX, va_up_ne _ _ (by omega), va_up_self]
  have e43 : X1 43 = b := by rw [← eX, va_up_self]
  have k0 : KF X X1 P (0, 0, 0, 0, 0) := by
    refine ⟨by rw [e42]; exact pk_us, by rw [e42, pk_un (by omega)]; exact pk_us, fun _ => ⟨?_, ?_, ?_⟩, fun h => absurd rfl h⟩
    · rw [e42, pk_un (by omega), pk_un (by omega)]
    · rw [e42, pk_un (by omega), pk_un (by omega)]
    · rw [← eX, va_up_ne _ _ (by omega), va_up_ne _ _ (by omega)]
  have fX : TG X X1 := fun j hj => by rw [← eX, va_up_ne _ _ (by omega), va_up_ne _ _ (by omega)]
  have b0 := s0T_le (P := P) (b := b)
  have b1 := s1T_le hP6 (b := b)
  have b2 := s2T_le hP6 (b := b)
  simp (disch := omega) [w122_47, w122_48, w122_49, w122_50, w122_51, w122_54, w122_55, w122_56, w122_57, rt122, rt122, aw_st, ai_cls, ai_len, ai_p, ai_sw, ai_m, ai_c, ai_at, ai_isI, ai_isJ, ai_isA, ai_ld, ai_1i, ai_2i, ai_2l, ai_cn, ai_j, ai_set, ai_set2, ai_nl, ai_rs, ai_sm, Value.category, hk0, hk1, lits, litb, litm, litm2, List.getElem?_cons_zero, List.getElem?_cons_succ, or_n0, bit_r, fi0, fi1, fi2, fi3, nI_toInt, nI_add, pk_mul, nI_leI, nI_ltI, nI_eq, ib_nI, nI_clamp, va_up_self, va_up_ne, va_up_up, va_up_comm, pk_us, pk_un, upd_up, updL_up, pk_uLs, pk_uLn, b01_1, b01_0, b01_1s, b01_0s, or_b]
  rw [x122_58_42, if_pos (by decide)]
  refine choose_0 hG hP6 k0 (by decide) (fun X2 f2 k2 => ?_)
  rw [e43] at k2
  have k2 : KF X X2 P (s0T P b) := k2
  have e2 : X2 43 = b := by rw [f2 43 (by omega) (by omega) (by omega), e43]
  simp (disch := omega) [w122_49, w122_50, w122_51, w122_54, w122_55, w122_56, w122_57, w122_61, w122_64, rt122, rt122, aw_st, ai_cls, ai_len, ai_p, ai_sw, ai_m, ai_c, ai_at, ai_isI, ai_isJ, ai_isA, ai_ld, ai_1i, ai_2i, ai_2l, ai_cn, ai_j, ai_set, ai_set2, ai_nl, ai_rs, ai_sm, Value.category, hk0, hk1, lits, litb, litm, litm2, List.getElem?_cons_zero, List.getElem?_cons_succ, or_n0, bit_r, fi0, fi1, fi2, fi3, nI_toInt, nI_add, pk_mul, nI_leI, nI_ltI, nI_eq, ib_nI, nI_clamp, va_up_self, va_up_ne, va_up_up, va_up_comm, pk_us, pk_un, upd_up, updL_up, pk_uLs, pk_uLn, b01_1, b01_0, b01_1s, b01_0s, or_b]
  rw [x122_58_42, if_pos (by decide)]
  refine choose_1 hG hP hP6 k2 (by omega) (fun X3 f3 k3 => ?_)
  rw [e2] at k3
  have k3 : KF X X3 P (s1T P b) := k3
  have e3 : X3 43 = b := by rw [f3 43 (by omega) (by omega) (by omega), e2]
  simp (disch := omega) [w122_49, w122_50, w122_51, w122_54, w122_55, w122_56, w122_57, w122_61, w122_64, rt122, rt122, aw_st, ai_cls, ai_len, ai_p, ai_sw, ai_m, ai_c, ai_at, ai_isI, ai_isJ, ai_isA, ai_ld, ai_1i, ai_2i, ai_2l, ai_cn, ai_j, ai_set, ai_set2, ai_nl, ai_rs, ai_sm, Value.category, hk0, hk1, lits, litb, litm, litm2, List.getElem?_cons_zero, List.getElem?_cons_succ, or_n0, bit_r, fi0, fi1, fi2, fi3, nI_toInt, nI_add, pk_mul, nI_leI, nI_ltI, nI_eq, ib_nI, nI_clamp, va_up_self, va_up_ne, va_up_up, va_up_comm, pk_us, pk_un, upd_up, updL_up, pk_uLs, pk_uLn, b01_1, b01_0, b01_1s, b01_0s, or_b]
  rw [x122_58_42, if_pos (by decide)]
  refine choose_2 hG hP hP6 k3 (by omega) (fun X4 f4 k4 => ?_)
  rw [e3] at k4
  have k4 : KF X X4 P (s2T P b) := k4
  have e4 : X4 43 = b := by rw [f4 43 (by omega) (by omega) (by omega), e3]
  simp (disch := omega) [w122_49, w122_50, w122_51, w122_54, w122_55, w122_56, w122_57, w122_61, w122_64, rt122, rt122, aw_st, ai_cls, ai_len, ai_p, ai_sw, ai_m, ai_c, ai_at, ai_isI, ai_isJ, ai_isA, ai_ld, ai_1i, ai_2i, ai_2l, ai_cn, ai_j, ai_set, ai_set2, ai_nl, ai_rs, ai_sm, Value.category, hk0, hk1, lits, litb, litm, litm2, List.getElem?_cons_zero, List.getElem?_cons_succ, or_n0, bit_r, fi0, fi1, fi2, fi3, nI_toInt, nI_add, pk_mul, nI_leI, nI_ltI, nI_eq, ib_nI, nI_clamp, va_up_self, va_up_ne, va_up_up, va_up_comm, pk_us, pk_un, upd_up, updL_up, pk_uLs, pk_uLn, b01_1, b01_0, b01_1s, b01_0s, or_b]
  rw [x122_58_42, if_pos (by decide)]
  refine choose_3 hG hP hP6 k4 (by omega) (fun X5 f5 k5 => ?_)
  rw [e4] at k5
  have k5 : KF X X5 P (s3T P b) := k5
  simp (disch := omega) [w122_49, w122_50, w122_51, w122_54, w122_55, w122_56, w122_57, w122_61, w122_64, w122_67, x122_68_42, w122_71, rt122, rt122, aw_st, ai_cls, ai_len, ai_p, ai_sw, ai_m, ai_c, ai_at, ai_isI, ai_isJ, ai_isA, ai_ld, ai_1i, ai_2i, ai_2l, ai_cn, ai_j, ai_set, ai_set2, ai_nl, ai_rs, ai_sm, Value.category, hk0, hk1, lits, litb, litm, litm2, List.getElem?_cons_zero, List.getElem?_cons_succ, or_n0, bit_r, fi0, fi1, fi2, fi3, nI_toInt, nI_add, pk_mul, nI_leI, nI_ltI, nI_eq, ib_nI, nI_clamp, va_up_self, va_up_ne, va_up_up, va_up_comm, pk_us, pk_un, upd_up, updL_up, pk_uLs, pk_uLn, b01_1, b01_0, b01_1s, b01_0s, or_b, k5.1]
  refine hQ X5 b hb (fun j hj => ?_) k5
  rw [f5 j (by omega) (by omega) (by omega), f4 j (by omega) (by omega) (by omega), f3 j (by omega) (by omega) (by omega), f2 j (by omega) (by omega) (by omega), fX j hj]
def t15 (X : mX) : mX := va_up X 0 (upd (X 0) 15 (nI 0))
theorem ttalked_bad {n : Nat} (hk : X 47 7 = nI P) (h15 : X 0 15 = nI n) (hP8 : P ≤ 8) (hn : n ≤ 940) (h : ¬ (1 ≤ P ∧ P ≤ 6 ∧ n = P)) : aw ET G (d + 7) 121 0 [some (.ref 0), none, none] [] 231 sl (mem X Y) Q = Q [.int mi1] 231 sl (mem (t15 X) Y) := by
  unfold t15
  by_cases a : P < 1
  · simp (disch := omega) [w121_0, x121_1_0, w121_4, w121_5, x121_6_0, x121_9_55, x121_12_47, w121_15, w121_16, w121_17, x121_18, w121_21, w121_22, w121_23, w121_26, w121_27, w121_29, w121_32, w121_33, w121_34, w121_37, w121_38, w121_39, x121_40_0, w121_43, x121_44_0, w121_47, w121_48, w121_51, rt121, ow121, pl11_352, rt121, aw_st, ai_cls, ai_len, ai_p, ai_sw, ai_m, ai_c, ai_at, ai_isI, ai_isJ, ai_isA, ai_ld, ai_1i, ai_2i, ai_2l, ai_cn, ai_j, ai_set, ai_set2, ai_nl, ai_rs, ai_sm, Value.category, hk0, hk1, lits, litb, litm, litm2, List.getElem?_cons_zero, List.getElem?_cons_succ, or_n0, bit_r, fi0, fi1, fi2, fi3, nI_toInt, nI_add, pk_mul, nI_leI, nI_ltI, nI_eq, ib_nI, nI_clamp, va_up_self, va_up_ne, va_up_up, va_up_comm, pk_us, pk_un, upd_up, updL_up, pk_uLs, pk_uLn, b01_1, b01_0, b01_1s, b01_0s, or_b, hk, h15, a]
  · by_cases b : 6 < P
    · simp (disch := omega) [w121_0, x121_1_0, w121_4, w121_5, x121_6_0, x121_9_55, x121_12_47, w121_15, w121_16, w121_17, x121_18, w121_21, w121_22, w121_23, w121_26, w121_27, w121_29, w121_32, w121_33, w121_34, w121_37, w121_38, w121_39, x121_40_0, w121_43, x121_44_0, w121_47, w121_48, w121_51, rt121, ow121, pl11_352, rt121, aw_st, ai_cls, ai_len, ai_p, ai_sw, ai_m, ai_c, ai_at, ai_isI, ai_isJ, ai_isA, ai_ld, ai_1i, ai_2i, ai_2l, ai_cn, ai_j, ai_set, ai_set2, ai_nl, ai_rs, ai_sm, Value.category, hk0, hk1, lits, litb, litm, litm2, List.getElem?_cons_zero, List.getElem?_cons_succ, or_n0, bit_r, fi0, fi1, fi2, fi3, nI_toInt, nI_add, pk_mul, nI_leI, nI_ltI, nI_eq, ib_nI, nI_clamp, va_up_self, va_up_ne, va_up_up, va_up_comm, pk_us, pk_un, upd_up, updL_up, pk_uLs, pk_uLn, b01_1, b01_0, b01_1s, b01_0s, or_b, hk, h15, a, b]
    · have e : ¬ n = P := by omega
      simp (disch := omega) [w121_0, x121_1_0, w121_4, w121_5, x121_6_0, x121_9_55, x121_12_47, w121_15, w121_16, w121_17, x121_18, w121_21, w121_22, w121_23, w121_26, w121_27, w121_29, w121_32, w121_33, w121_34, w121_37, w121_38, w121_39, x121_40_0, w121_43, x121_44_0, w121_47, w121_48, w121_51, rt121, ow121, pl11_352, rt121, aw_st, ai_cls, ai_len, ai_p, ai_sw, ai_m, ai_c, ai_at, ai_isI, ai_isJ, ai_isA, ai_ld, ai_1i, ai_2i, ai_2l, ai_cn, ai_j, ai_set, ai_set2, ai_nl, ai_rs, ai_sm, Value.category, hk0, hk1, lits, litb, litm, litm2, List.getElem?_cons_zero, List.getElem?_cons_succ, or_n0, bit_r, fi0, fi1, fi2, fi3, nI_toInt, nI_add, pk_mul, nI_leI, nI_ltI, nI_eq, ib_nI, nI_clamp, va_up_self, va_up_ne, va_up_up, va_up_comm, pk_us, pk_un, upd_up, updL_up, pk_uLs, pk_uLn, b01_1, b01_0, b01_1s, b01_0s, or_b, hk, h15, a, b, e]
theorem ttalked_ok (hG : G.1 = false) (hk : X 47 7 = nI P) (h15 : X 0 15 = nI P) (hP : 0 < P) (hP6 : P ≤ 6) (hT : TB8 (X 1) t) (hQ : ∀ X' b, (∀ q, q < P → b q = balT t q) → TG (t15 X) X' → KF X X' P (s3T P b) → Q [.int (nI (s3T P b).1)] 231 sl (mem X' Y)) : aw ET G (d + 7) 121 0 [some (.ref 0), none, none] [] 231 sl (mem X Y) Q := by
  unfold t15 at hQ
  simp (disch := omega) [w121_0, x121_1_0, w121_4, w121_5, x121_6_0, x121_9_55, x121_12_47, w121_15, w121_16, w121_17, x121_18, w121_21, w121_22, w121_23, w121_26, w121_27, w121_29, w121_32, w121_33, w121_34, w121_37, w121_38, w121_39, x121_40_0, w121_43, x121_44_0, w121_47, rt121, rt121, aw_st, ai_cls, ai_len, ai_p, ai_sw, ai_m, ai_c, ai_at, ai_isI, ai_isJ, ai_isA, ai_ld, ai_1i, ai_2i, ai_2l, ai_cn, ai_j, ai_set, ai_set2, ai_nl, ai_rs, ai_sm, Value.category, hk0, hk1, lits, litb, litm, litm2, List.getElem?_cons_zero, List.getElem?_cons_succ, or_n0, bit_r, fi0, fi1, fi2, fi3, nI_toInt, nI_add, pk_mul, nI_leI, nI_ltI, nI_eq, ib_nI, nI_clamp, va_up_self, va_up_ne, va_up_up, va_up_comm, pk_us, pk_un, upd_up, updL_up, pk_uLs, pk_uLn, b01_1, b01_0, b01_1s, b01_0s, or_b, hk, h15, show ¬ P < 1 by omega, show ¬ 6 < P by omega]
  rw [x121_48_42, if_pos (by decide)]
  refine countSets_wp hG hP hP6 (t := t) (by rw [va_up_ne _ _ (by omega)]; exact hT) (fun X' b hb f k => ?_)
  simp (disch := omega) [w121_51, rt121, rt121, aw_st, ai_cls, ai_len, ai_p, ai_sw, ai_m, ai_c, ai_at, ai_isI, ai_isJ, ai_isA, ai_ld, ai_1i, ai_2i, ai_2l, ai_cn, ai_j, ai_set, ai_set2, ai_nl, ai_rs, ai_sm, Value.category, hk0, hk1, lits, litb, litm, litm2, List.getElem?_cons_zero, List.getElem?_cons_succ, or_n0, bit_r, fi0, fi1, fi2, fi3, nI_toInt, nI_add, pk_mul, nI_leI, nI_ltI, nI_eq, ib_nI, nI_clamp, va_up_self, va_up_ne, va_up_up, va_up_comm, pk_us, pk_un, upd_up, updL_up, pk_uLs, pk_uLn, b01_1, b01_0, b01_1s, b01_0s, or_b]
  refine hQ X' b hb f ?_
  unfold KF at k ⊢
  rw [va_up_ne _ _ (by omega), va_up_ne _ _ (by omega)] at k
  exact k
/-- what TALK answers: the first set, m talks of n PERSONS -/
def talkV (P m : Nat) (cd : Nat → Nat) (x y : Int32) : Int32 := if (pI m x && pI 3 y) = true then (if y = nI 0 then nI (cdH P (cd (iN x))) else if y = nI 1 then nI (cdW P (cd (iN x))) else nI (cd (iN x) % 3 + 1)) else mi1
set_option maxHeartbeats 4000000 in
theorem ttalk_eq {m : Nat} {cd : Nat → Nat} {x y : Int32} (h3 : X 42 3 = nI m) (hm : m ≤ 3) (h4 : 0 < m → X 42 4 = nI P ∧ 0 < P ∧ P ≤ 6) (h5 : ∀ i, i < m → X 45 i = nI (cd i) ∧ cd i < 108) : aw ET G (d + 2) 133 0 [some (.ref 0), some (.int x), some (.int y)] [] 231 sl (mem X Y) Q = Q [.int (talkV P m cd x y)] 231 sl (mem X Y) := by
  unfold talkV
  cases hx : pI m x
  · have hx' := hx
    unfold pI at hx
    rw [decide_eq_false_iff_not] at hx
    rcases lt_or x 0 with ⟨g1, g2⟩ | ⟨g1, g2⟩
    · have g1' : x < nI 0 := g1
      simp (disch := omega) [w133_0, x133_1_0, w133_4, w133_5, x133_6_42, w133_9, rt133, w134_0, w134_1, w134_4, w134_5, x134_6_42, w134_9, w134_12, w134_13, w134_14, w134_17, w134_18, rt134, rt133, rt134, aw_st, ai_cls, ai_len, ai_p, ai_sw, ai_m, ai_c, ai_at, ai_isI, ai_isJ, ai_isA, ai_ld, ai_1i, ai_2i, ai_2l, ai_cn, ai_j, ai_set, ai_set2, ai_nl, ai_rs, ai_sm, Value.category, hk0, hk1, lits, litb, litm, litm2, List.getElem?_cons_zero, List.getElem?_cons_succ, or_n0, bit_r, fi0, fi1, fi2, fi3, nI_toInt, nI_add, pk_mul, nI_leI, nI_ltI, nI_eq, ib_nI, nI_clamp, va_up_self, va_up_ne, va_up_up, va_up_comm, pk_us, pk_un, upd_up, updL_up, pk_uLs, pk_uLn, b01_1, b01_0, b01_1s, b01_0s, or_b, g1']
    · have g1' : ¬ x < nI 0 := g1
      have : ¬ x < nI m := fun h => hx ⟨g2, h⟩
      have h3' : nI m ≤ x := Int32.not_lt.mp this
      simp (disch := omega) [w133_0, x133_1_0, w133_4, w133_5, x133_6_42, w133_9, rt133, w134_0, w134_1, w134_4, w134_5, x134_6_42, w134_9, w134_12, w134_13, w134_14, w134_17, w134_18, rt134, rt133, rt134, aw_st, ai_cls, ai_len, ai_p, ai_sw, ai_m, ai_c, ai_at, ai_isI, ai_isJ, ai_isA, ai_ld, ai_1i, ai_2i, ai_2l, ai_cn, ai_j, ai_set, ai_set2, ai_nl, ai_rs, ai_sm, Value.category, hk0, hk1, lits, litb, litm, litm2, List.getElem?_cons_zero, List.getElem?_cons_succ, or_n0, bit_r, fi0, fi1, fi2, fi3, nI_toInt, nI_add, pk_mul, nI_leI, nI_ltI, nI_eq, ib_nI, nI_clamp, va_up_self, va_up_ne, va_up_up, va_up_comm, pk_us, pk_un, upd_up, updL_up, pk_uLs, pk_uLn, b01_1, b01_0, b01_1s, b01_0s, or_b, g1', h3, h3']
  · obtain ⟨a, ha, rfl⟩ := (pI_nat (by omega)).mp hx
    obtain ⟨e5, e6⟩ := h5 a ha
    obtain ⟨e4, e7, e8⟩ := h4 (by omega)
    have hh := fun (Q : List Value → Nat → Nat → ai_M → Prop) => hearer_eq (G := G) (d := d) (sl := sl) (Q := Q) (X := X) (Y := Y) e7 e8 e6
    have hw := fun (Q : List Value → Nat → Nat → ai_M → Prop) => whom_eq (G := G) (d := d) (sl := sl) (Q := Q) (X := X) (Y := Y) e7 e8 e6
    have hu := fun (Q : List Value → Nat → Nat → ai_M → Prop) => hours_eq (G := G) (d := d) (sl := sl) (Q := Q) (X := X) (Y := Y) e6
    cases hy : pI 3 y
    · rcases pI_out (P := 3) (by omega) hy with h | h
      · simp (disch := omega) [w133_0, x133_1_0, w133_4, w133_5, x133_6_42, w133_9, rt133, w134_0, w134_1, w134_4, w134_5, x134_6_42, w134_9, w134_12, w134_13, w134_14, w134_17, w134_18, w134_19, w134_20, w134_48, x134_49_42, w134_52, w134_53, w134_54, x134_55_42, x134_58, w134_61, w134_62, x134_63_42, w134_66, w134_67, w134_68, x134_69_42, x134_72, w134_75, w134_76, x134_77_42, w134_80, w134_81, x134_82, w134_85, w134_86, w134_87, rt134, rt133, rt134, aw_st, ai_cls, ai_len, ai_p, ai_sw, ai_m, ai_c, ai_at, ai_isI, ai_isJ, ai_isA, ai_ld, ai_1i, ai_2i, ai_2l, ai_cn, ai_j, ai_set, ai_set2, ai_nl, ai_rs, ai_sm, Value.category, hk0, hk1, lits, litb, litm, litm2, List.getElem?_cons_zero, List.getElem?_cons_succ, or_n0, bit_r, fi0, fi1, fi2, fi3, nI_toInt, nI_add, pk_mul, nI_leI, nI_ltI, nI_eq, ib_nI, nI_clamp, va_up_self, va_up_ne, va_up_up, va_up_comm, pk_us, pk_un, upd_up, updL_up, pk_uLs, pk_uLn, b01_1, b01_0, b01_1s, b01_0s, or_b, h3, h, show y.toInt < 0 ∨ 2 < y.toInt by omega, show ¬ m ≤ a by omega, show a < 3 by omega]
      · simp (disch := omega) [w133_0, x133_1_0, w133_4, w133_5, x133_6_42, w133_9, rt133, w134_0, w134_1, w134_4, w134_5, x134_6_42, w134_9, w134_12, w134_13, w134_14, w134_17, w134_18, w134_19, w134_20, w134_48, x134_49_42, w134_52, w134_53, w134_54, x134_55_42, x134_58, w134_61, w134_62, x134_63_42, w134_66, w134_67, w134_68, x134_69_42, x134_72, w134_75, w134_76, x134_77_42, w134_80, w134_81, x134_82, w134_85, w134_86, w134_87, rt134, rt133, rt134, aw_st, ai_cls, ai_len, ai_p, ai_sw, ai_m, ai_c, ai_at, ai_isI, ai_isJ, ai_isA, ai_ld, ai_1i, ai_2i, ai_2l, ai_cn, ai_j, ai_set, ai_set2, ai_nl, ai_rs, ai_sm, Value.category, hk0, hk1, lits, litb, litm, litm2, List.getElem?_cons_zero, List.getElem?_cons_succ, or_n0, bit_r, fi0, fi1, fi2, fi3, nI_toInt, nI_add, pk_mul, nI_leI, nI_ltI, nI_eq, ib_nI, nI_clamp, va_up_self, va_up_ne, va_up_up, va_up_comm, pk_us, pk_un, upd_up, updL_up, pk_uLs, pk_uLn, b01_1, b01_0, b01_1s, b01_0s, or_b, h3, h, show y.toInt < 0 ∨ 2 < y.toInt by omega, show ¬ m ≤ a by omega, show a < 3 by omega]
    · obtain ⟨q, hq, rfl⟩ := (pI_nat (by omega)).mp hy
      rcases (show q = 0 ∨ q = 1 ∨ q = 2 by omega) with rfl | rfl | rfl <;> simp (disch := omega) [w133_0, x133_1_0, w133_4, w133_5, x133_6_42, w133_9, rt133, w134_0, w134_1, w134_4, w134_5, x134_6_42, w134_9, w134_12, w134_13, w134_14, w134_17, w134_18, w134_19, w134_20, w134_48, x134_49_42, w134_52, w134_53, w134_54, x134_55_42, x134_58, w134_61, w134_62, x134_63_42, w134_66, w134_67, w134_68, x134_69_42, x134_72, w134_75, w134_76, x134_77_42, w134_80, w134_81, x134_82, w134_85, w134_86, w134_87, rt134, rt133, rt134, aw_st, ai_cls, ai_len, ai_p, ai_sw, ai_m, ai_c, ai_at, ai_isI, ai_isJ, ai_isA, ai_ld, ai_1i, ai_2i, ai_2l, ai_cn, ai_j, ai_set, ai_set2, ai_nl, ai_rs, ai_sm, Value.category, hk0, hk1, lits, litb, litm, litm2, List.getElem?_cons_zero, List.getElem?_cons_succ, or_n0, bit_r, fi0, fi1, fi2, fi3, nI_toInt, nI_add, pk_mul, nI_leI, nI_ltI, nI_eq, ib_nI, nI_clamp, va_up_self, va_up_ne, va_up_up, va_up_comm, pk_us, pk_un, upd_up, updL_up, pk_uLs, pk_uLn, b01_1, b01_0, b01_1s, b01_0s, or_b, h3, mm45, e5, e4, hh, hw, hu, iN_nI, show ¬ m ≤ a by omega, show a < 3 by omega]
end TTX
