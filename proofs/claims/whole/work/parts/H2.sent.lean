/-! A SENTENCE's text: the class, its small methods -/
section SNC
variable {G : ai_G} {d sl : Nat} {Q : List Value → Nat → Nat → ai_M → Prop} {Y : mY} {X : mX} {c : TC} {i P S o y : Nat} {nm : Nat → List Nat} {L : List SC}
/-- the draft's steps and ONES -/
def SS (X : mX) (L : List SC) (o : Nat) : Prop := X 14 5 = nI o ∧ X 14 4 = nI L.length ∧ ∀ q, q < L.length → X 15 q = nI (L.getD q (0, 0, 0)).1 ∧ X 16 q = nI (L.getD q (0, 0, 0)).2.1 ∧ X 17 q = nI (L.getD q (0, 0, 0)).2.2
def FN (X : mX) (Y : mY) (X' : mX) (Y' : mY) : Prop := (∀ k, ¬ k = 2 → ¬ (14 ≤ k ∧ k ≤ 17) → X' k = X k) ∧ (∀ j, ¬ j = 4 → ¬ j = 5 → X' 14 j = X 14 j) ∧ (∀ k, ¬ k = 2 → Y' k = Y k)
theorem FN.tr {X' X2 : mX} {Y' Y2 : mY} (h : FN X Y X' Y') (g : FN X' Y' X2 Y2) : FN X Y X2 Y2 := ⟨fun k a b => (g.1 k a b).trans (h.1 k a b), fun j a b => (g.2.1 j a b).trans (h.2.1 j a b), fun k a => (g.2.2 k a).trans (h.2.2 k a)⟩
theorem HC.fn {X' : mX} {Y' : mY} (h : HC X Y X' Y') : FN X Y X' Y' := ⟨fun k a _ => h.1 k a, fun j _ _ => by rw [h.1 14 (by omega)], h.2⟩
theorem FN_refl : FN X Y X Y := ⟨fun _ _ _ => rfl, fun _ _ _ => rfl, fun _ _ => rfl⟩
theorem SS_h {X' : mX} {Y' : mY} (h : SS X L o) (f : HC X Y X' Y') : SS X' L o := by
  unfold SS at h ⊢
  rw [f.1 14 (by omega), f.1 15 (by omega), f.1 16 (by omega), f.1 17 (by omega)]
  exact h
theorem TN_fn {X' : mX} {Y' : mY} (h : TN X Y nm P S) (f : FN X Y X' Y') : TN X' Y' nm P S := by
  obtain ⟨h1, h2, h3, h4, h5, h6⟩ := h
  exact ⟨h1, h2, by rw [f.1 47 (by omega) (by omega)]; exact h3, by rw [f.1 47 (by omega) (by omega)]; exact h4, by rw [f.2.2 48 (by omega)]; exact h5, by rw [f.2.2 51 (by omega)]; exact h6⟩
theorem OKc_fn {X' : mX} {Y' : mY} (ok : OKc c X) (h : FN X Y X' Y') : OKc c X' := ⟨by rw [h.1 1 (by omega) (by omega)]; exact ok.1, ok.2⟩
def adX (X : mX) (m : Nat) (z : SC) : mX := va_up (va_up (va_up (va_up X 14 (upd (X 14) 4 (nI (m + 1)))) 15 (upd (X 15) m (nI z.1))) 16 (upd (X 16) m (nI z.2.1))) 17 (upd (X 17) m (nI z.2.2))
set_option maxHeartbeats 4000000 in
theorem addStep_eq {z : SC} (h : X 14 4 = nI L.length) (hl : L.length < 40) : aw ET G d 161 0 [some (.ref 14), some (.int (nI z.1)), some (.int (nI z.2.1)), some (.int (nI z.2.2))] [] 231 sl (mem X Y) Q = Q [.int (nI 1)] 231 sl (mem (adX X L.length z) Y) := by
  simp (disch := omega) [w161_0, x161_1_14, w161_4, w161_6, w161_9, w161_10, w161_11, x161_12_14, w161_15, x161_16_14, w161_19, w161_20, w161_21, x161_22_14, w161_25, x161_26_14, w161_29, w161_30, w161_31, x161_32_14, w161_35, x161_36_14, w161_39, w161_40, w161_41, w161_42, x161_43_14, w161_46, w161_47, x161_48_14, w161_51, w161_52, rt161, rt161, aw_st, ai_cls, ai_len, ai_p, ai_sw, ai_m, ai_c, ai_at, ai_isI, ai_isJ, ai_isA, ai_ld, ai_1i, ai_2i, ai_2l, ai_cn, ai_j, ai_set, ai_set2, ai_nl, ai_rs, ai_sm, Value.category, hk0, hk1, lits, litb, litm, litm2, List.getElem?_cons_zero, List.getElem?_cons_succ, or_n0, bit_r, fi0, fi1, fi2, fi3, nI_toInt, nI_add, pk_mul, nI_leI, nI_ltI, nI_eq, pk_sub, ib_nI, nI_clamp, va_up_self, va_up_ne, va_up_up, va_up_comm, pk_us, pk_un, upd_up, updL_up, pk_uLs, pk_uLn, b01_1, b01_0, b01_1s, b01_0s, or_b, mm15, mu15, mm16, mu16, mm17, mu17, h, adX, show ¬ 40 ≤ L.length by omega]
theorem SS_ad {z : SC} (h : SS X L o) : SS (adX X L.length z) (L ++ [z]) o := by
  obtain ⟨h1, h2, h3⟩ := h
  refine ⟨by simp [adX, va_up, upd, h1], by simp [adX, va_up, upd], fun q hq => ?_⟩
  rw [List.length_append] at hq
  have hq : q < L.length + 1 := hq
  by_cases e : q = L.length
  · subst e
    have : (L ++ [z]).getD L.length (0, 0, 0) = z := by simp [List.getD_eq_getElem?_getD]
    rw [this]
    refine ⟨?_, ?_, ?_⟩ <;> simp [adX, va_up, upd]
  · have : (L ++ [z]).getD q (0, 0, 0) = L.getD q (0, 0, 0) := by
      rw [List.getD_eq_getElem?_getD, List.getD_eq_getElem?_getD, List.getElem?_append_left (by omega)]
    rw [this]
    obtain ⟨g1, g2, g3⟩ := h3 q (by omega)
    refine ⟨?_, ?_, ?_⟩ <;> simp [adX, va_up, upd, e, g1, g2, g3]
theorem FN_ad {z : SC} {m : Nat} : FN X Y (adX X m z) Y := ⟨fun k _ a => by simp only [adX, va_up, show ¬ k = 14 by omega, show ¬ k = 15 by omega, show ¬ k = 16 by omega, show ¬ k = 17 by omega, if_false], fun j a _ => by simp [adX, va_up, upd, a], fun _ _ => rfl⟩
theorem ad_2 {z : SC} {m : Nat} : adX X m z 2 = X 2 := by simp [adX, va_up]
set_option maxHeartbeats 4000000 in
theorem isMs_eq (hy : y ≤ 21) : aw ET G d 160 0 [some (.int (yI y))] [] 231 sl (mem X Y) Q = Q [.int (b01 (isMs y = true))] 231 sl (mem X Y) := by
  unfold isMs b01
  by_cases a16 : y = 16
  · subst a16; simp (disch := omega) [w160_0, w160_1, w160_3, w160_6, w160_7, w160_9, w160_12, w160_13, w160_15, w160_18, w160_19, w160_21, w160_24, w160_25, w160_27, w160_30, w160_31, w160_34, w160_35, rt160, rt160, aw_st, ai_cls, ai_len, ai_p, ai_sw, ai_m, ai_c, ai_at, ai_isI, ai_isJ, ai_isA, ai_ld, ai_1i, ai_2i, ai_2l, ai_cn, ai_j, ai_set, ai_set2, ai_nl, ai_rs, ai_sm, Value.category, hk0, hk1, lits, litb, litm, litm2, List.getElem?_cons_zero, List.getElem?_cons_succ, or_n0, bit_r, fi0, fi1, fi2, fi3, nI_toInt, nI_add, pk_mul, nI_leI, nI_ltI, nI_eq, pk_sub, ib_nI, nI_clamp, va_up_self, va_up_ne, va_up_up, va_up_comm, pk_us, pk_un, upd_up, updL_up, pk_uLs, pk_uLn, b01_1, b01_0, b01_1s, b01_0s, or_b, yI_nI]
  by_cases a17 : y = 17
  · subst a17; simp (disch := omega) [w160_0, w160_1, w160_3, w160_6, w160_7, w160_9, w160_12, w160_13, w160_15, w160_18, w160_19, w160_21, w160_24, w160_25, w160_27, w160_30, w160_31, w160_34, w160_35, rt160, rt160, aw_st, ai_cls, ai_len, ai_p, ai_sw, ai_m, ai_c, ai_at, ai_isI, ai_isJ, ai_isA, ai_ld, ai_1i, ai_2i, ai_2l, ai_cn, ai_j, ai_set, ai_set2, ai_nl, ai_rs, ai_sm, Value.category, hk0, hk1, lits, litb, litm, litm2, List.getElem?_cons_zero, List.getElem?_cons_succ, or_n0, bit_r, fi0, fi1, fi2, fi3, nI_toInt, nI_add, pk_mul, nI_leI, nI_ltI, nI_eq, pk_sub, ib_nI, nI_clamp, va_up_self, va_up_ne, va_up_up, va_up_comm, pk_us, pk_un, upd_up, updL_up, pk_uLs, pk_uLn, b01_1, b01_0, b01_1s, b01_0s, or_b, yI_nI]
  by_cases a18 : y = 18
  · subst a18; simp (disch := omega) [w160_0, w160_1, w160_3, w160_6, w160_7, w160_9, w160_12, w160_13, w160_15, w160_18, w160_19, w160_21, w160_24, w160_25, w160_27, w160_30, w160_31, w160_34, w160_35, rt160, rt160, aw_st, ai_cls, ai_len, ai_p, ai_sw, ai_m, ai_c, ai_at, ai_isI, ai_isJ, ai_isA, ai_ld, ai_1i, ai_2i, ai_2l, ai_cn, ai_j, ai_set, ai_set2, ai_nl, ai_rs, ai_sm, Value.category, hk0, hk1, lits, litb, litm, litm2, List.getElem?_cons_zero, List.getElem?_cons_succ, or_n0, bit_r, fi0, fi1, fi2, fi3, nI_toInt, nI_add, pk_mul, nI_leI, nI_ltI, nI_eq, pk_sub, ib_nI, nI_clamp, va_up_self, va_up_ne, va_up_up, va_up_comm, pk_us, pk_un, upd_up, updL_up, pk_uLs, pk_uLn, b01_1, b01_0, b01_1s, b01_0s, or_b, yI_nI]
  by_cases a19 : y = 19
  · subst a19; simp (disch := omega) [w160_0, w160_1, w160_3, w160_6, w160_7, w160_9, w160_12, w160_13, w160_15, w160_18, w160_19, w160_21, w160_24, w160_25, w160_27, w160_30, w160_31, w160_34, w160_35, rt160, rt160, aw_st, ai_cls, ai_len, ai_p, ai_sw, ai_m, ai_c, ai_at, ai_isI, ai_isJ, ai_isA, ai_ld, ai_1i, ai_2i, ai_2l, ai_cn, ai_j, ai_set, ai_set2, ai_nl, ai_rs, ai_sm, Value.category, hk0, hk1, lits, litb, litm, litm2, List.getElem?_cons_zero, List.getElem?_cons_succ, or_n0, bit_r, fi0, fi1, fi2, fi3, nI_toInt, nI_add, pk_mul, nI_leI, nI_ltI, nI_eq, pk_sub, ib_nI, nI_clamp, va_up_self, va_up_ne, va_up_up, va_up_comm, pk_us, pk_un, upd_up, updL_up, pk_uLs, pk_uLn, b01_1, b01_0, b01_1s, b01_0s, or_b, yI_nI]
  by_cases a20 : y = 20
  · subst a20; simp (disch := omega) [w160_0, w160_1, w160_3, w160_6, w160_7, w160_9, w160_12, w160_13, w160_15, w160_18, w160_19, w160_21, w160_24, w160_25, w160_27, w160_30, w160_31, w160_34, w160_35, rt160, rt160, aw_st, ai_cls, ai_len, ai_p, ai_sw, ai_m, ai_c, ai_at, ai_isI, ai_isJ, ai_isA, ai_ld, ai_1i, ai_2i, ai_2l, ai_cn, ai_j, ai_set, ai_set2, ai_nl, ai_rs, ai_sm, Value.category, hk0, hk1, lits, litb, litm, litm2, List.getElem?_cons_zero, List.getElem?_cons_succ, or_n0, bit_r, fi0, fi1, fi2, fi3, nI_toInt, nI_add, pk_mul, nI_leI, nI_ltI, nI_eq, pk_sub, ib_nI, nI_clamp, va_up_self, va_up_ne, va_up_up, va_up_comm, pk_us, pk_un, upd_up, updL_up, pk_uLs, pk_uLn, b01_1, b01_0, b01_1s, b01_0s, or_b, yI_nI]
  have : ¬ (16 ≤ y ∧ y ≤ 20) := by omega
  simp (disch := omega) [w160_0, w160_1, w160_3, w160_6, w160_7, w160_9, w160_12, w160_13, w160_15, w160_18, w160_19, w160_21, w160_24, w160_25, w160_27, w160_30, w160_31, w160_34, w160_35, rt160, rt160, aw_st, ai_cls, ai_len, ai_p, ai_sw, ai_m, ai_c, ai_at, ai_isI, ai_isJ, ai_isA, ai_ld, ai_1i, ai_2i, ai_2l, ai_cn, ai_j, ai_set, ai_set2, ai_nl, ai_rs, ai_sm, Value.category, hk0, hk1, lits, litb, litm, litm2, List.getElem?_cons_zero, List.getElem?_cons_succ, or_n0, bit_r, fi0, fi1, fi2, fi3, nI_toInt, nI_add, pk_mul, nI_leI, nI_ltI, nI_eq, pk_sub, ib_nI, nI_clamp, va_up_self, va_up_ne, va_up_up, va_up_comm, pk_us, pk_un, upd_up, updL_up, pk_uLs, pk_uLn, b01_1, b01_0, b01_1s, b01_0s, or_b, yI_nI, a16, a17, a18, a19, a20, this]
set_option maxHeartbeats 4000000 in
theorem isBg_eq (hy : y ≤ 21) : aw ET G (d + 1) 159 0 [some (.int (yI y))] [] 231 sl (mem X Y) Q = Q [.int (b01 (isBg y = true))] 231 sl (mem X Y) := by
  have hm := fun (Q : List Value → Nat → Nat → ai_M → Prop) => isMs_eq (G := G) (d := d) (sl := sl) (Q := Q) (X := X) (Y := Y) hy
  unfold isBg
  by_cases a13 : y = 13
  · subst a13; simp (disch := omega) [w159_0, w159_1, w159_3, w159_6, w159_7, w159_9, w159_12, w159_13, w159_14, w159_17, w159_18, w159_19, w159_22, w159_23, w159_25, w159_28, w159_29, w159_30, w159_33, x159_34, w159_37, w159_40, w159_41, w159_44, w159_45, rt159, rt159, aw_st, ai_cls, ai_len, ai_p, ai_sw, ai_m, ai_c, ai_at, ai_isI, ai_isJ, ai_isA, ai_ld, ai_1i, ai_2i, ai_2l, ai_cn, ai_j, ai_set, ai_set2, ai_nl, ai_rs, ai_sm, Value.category, hk0, hk1, lits, litb, litm, litm2, List.getElem?_cons_zero, List.getElem?_cons_succ, or_n0, bit_r, fi0, fi1, fi2, fi3, nI_toInt, nI_add, pk_mul, nI_leI, nI_ltI, nI_eq, pk_sub, ib_nI, nI_clamp, va_up_self, va_up_ne, va_up_up, va_up_comm, pk_us, pk_un, upd_up, updL_up, pk_uLs, pk_uLn, b01_1, b01_0, b01_1s, b01_0s, or_b, yI_nI, b01]
  by_cases a14 : y = 14
  · subst a14; simp (disch := omega) [w159_0, w159_1, w159_3, w159_6, w159_7, w159_9, w159_12, w159_13, w159_14, w159_17, w159_18, w159_19, w159_22, w159_23, w159_25, w159_28, w159_29, w159_30, w159_33, x159_34, w159_37, w159_40, w159_41, w159_44, w159_45, rt159, rt159, aw_st, ai_cls, ai_len, ai_p, ai_sw, ai_m, ai_c, ai_at, ai_isI, ai_isJ, ai_isA, ai_ld, ai_1i, ai_2i, ai_2l, ai_cn, ai_j, ai_set, ai_set2, ai_nl, ai_rs, ai_sm, Value.category, hk0, hk1, lits, litb, litm, litm2, List.getElem?_cons_zero, List.getElem?_cons_succ, or_n0, bit_r, fi0, fi1, fi2, fi3, nI_toInt, nI_add, pk_mul, nI_leI, nI_ltI, nI_eq, pk_sub, ib_nI, nI_clamp, va_up_self, va_up_ne, va_up_up, va_up_comm, pk_us, pk_un, upd_up, updL_up, pk_uLs, pk_uLn, b01_1, b01_0, b01_1s, b01_0s, or_b, yI_nI, b01]
  by_cases a3 : y = 3
  · subst a3; simp (disch := omega) [w159_0, w159_1, w159_3, w159_6, w159_7, w159_9, w159_12, w159_13, w159_14, w159_17, w159_18, w159_19, w159_22, w159_23, w159_25, w159_28, w159_29, w159_30, w159_33, x159_34, w159_37, w159_40, w159_41, w159_44, w159_45, rt159, rt159, aw_st, ai_cls, ai_len, ai_p, ai_sw, ai_m, ai_c, ai_at, ai_isI, ai_isJ, ai_isA, ai_ld, ai_1i, ai_2i, ai_2l, ai_cn, ai_j, ai_set, ai_set2, ai_nl, ai_rs, ai_sm, Value.category, hk0, hk1, lits, litb, litm, litm2, List.getElem?_cons_zero, List.getElem?_cons_succ, or_n0, bit_r, fi0, fi1, fi2, fi3, nI_toInt, nI_add, pk_mul, nI_leI, nI_ltI, nI_eq, pk_sub, ib_nI, nI_clamp, va_up_self, va_up_ne, va_up_up, va_up_comm, pk_us, pk_un, upd_up, updL_up, pk_uLs, pk_uLn, b01_1, b01_0, b01_1s, b01_0s, or_b, yI_nI, b01]
  by_cases a4 : y = 4
  · subst a4; simp (disch := omega) [w159_0, w159_1, w159_3, w159_6, w159_7, w159_9, w159_12, w159_13, w159_14, w159_17, w159_18, w159_19, w159_22, w159_23, w159_25, w159_28, w159_29, w159_30, w159_33, x159_34, w159_37, w159_40, w159_41, w159_44, w159_45, rt159, rt159, aw_st, ai_cls, ai_len, ai_p, ai_sw, ai_m, ai_c, ai_at, ai_isI, ai_isJ, ai_isA, ai_ld, ai_1i, ai_2i, ai_2l, ai_cn, ai_j, ai_set, ai_set2, ai_nl, ai_rs, ai_sm, Value.category, hk0, hk1, lits, litb, litm, litm2, List.getElem?_cons_zero, List.getElem?_cons_succ, or_n0, bit_r, fi0, fi1, fi2, fi3, nI_toInt, nI_add, pk_mul, nI_leI, nI_ltI, nI_eq, pk_sub, ib_nI, nI_clamp, va_up_self, va_up_ne, va_up_up, va_up_comm, pk_us, pk_un, upd_up, updL_up, pk_uLs, pk_uLn, b01_1, b01_0, b01_1s, b01_0s, or_b, yI_nI, b01]
  by_cases a15 : y = 15
  · subst a15; simp (disch := omega) [w159_0, w159_1, w159_3, w159_6, w159_7, w159_9, w159_12, w159_13, w159_14, w159_17, w159_18, w159_19, w159_22, w159_23, w159_25, w159_28, w159_29, w159_30, w159_33, x159_34, w159_37, w159_40, w159_41, w159_44, w159_45, rt159, rt159, aw_st, ai_cls, ai_len, ai_p, ai_sw, ai_m, ai_c, ai_at, ai_isI, ai_isJ, ai_isA, ai_ld, ai_1i, ai_2i, ai_2l, ai_cn, ai_j, ai_set, ai_set2, ai_nl, ai_rs, ai_sm, Value.category, hk0, hk1, lits, litb, litm, litm2, List.getElem?_cons_zero, List.getElem?_cons_succ, or_n0, bit_r, fi0, fi1, fi2, fi3, nI_toInt, nI_add, pk_mul, nI_leI, nI_ltI, nI_eq, pk_sub, ib_nI, nI_clamp, va_up_self, va_up_ne, va_up_up, va_up_comm, pk_us, pk_un, upd_up, updL_up, pk_uLs, pk_uLn, b01_1, b01_0, b01_1s, b01_0s, or_b, yI_nI, b01]
  by_cases a1 : y = 1
  · subst a1; simp (disch := omega) [w159_0, w159_1, w159_3, w159_6, w159_7, w159_9, w159_12, w159_13, w159_14, w159_17, w159_18, w159_19, w159_22, w159_23, w159_25, w159_28, w159_29, w159_30, w159_33, x159_34, w159_37, w159_40, w159_41, w159_44, w159_45, rt159, rt159, aw_st, ai_cls, ai_len, ai_p, ai_sw, ai_m, ai_c, ai_at, ai_isI, ai_isJ, ai_isA, ai_ld, ai_1i, ai_2i, ai_2l, ai_cn, ai_j, ai_set, ai_set2, ai_nl, ai_rs, ai_sm, Value.category, hk0, hk1, lits, litb, litm, litm2, List.getElem?_cons_zero, List.getElem?_cons_succ, or_n0, bit_r, fi0, fi1, fi2, fi3, nI_toInt, nI_add, pk_mul, nI_leI, nI_ltI, nI_eq, pk_sub, ib_nI, nI_clamp, va_up_self, va_up_ne, va_up_up, va_up_comm, pk_us, pk_un, upd_up, updL_up, pk_uLs, pk_uLn, b01_1, b01_0, b01_1s, b01_0s, or_b, yI_nI, b01]
  cases m : isMs y
  · rw [m] at hm
    simp (disch := omega) [w159_0, w159_1, w159_3, w159_6, w159_7, w159_9, w159_12, w159_13, w159_14, w159_17, w159_18, w159_19, w159_22, w159_23, w159_25, w159_28, w159_29, w159_30, w159_33, x159_34, w159_37, w159_40, w159_41, w159_44, w159_45, rt159, rt159, aw_st, ai_cls, ai_len, ai_p, ai_sw, ai_m, ai_c, ai_at, ai_isI, ai_isJ, ai_isA, ai_ld, ai_1i, ai_2i, ai_2l, ai_cn, ai_j, ai_set, ai_set2, ai_nl, ai_rs, ai_sm, Value.category, hk0, hk1, lits, litb, litm, litm2, List.getElem?_cons_zero, List.getElem?_cons_succ, or_n0, bit_r, fi0, fi1, fi2, fi3, nI_toInt, nI_add, pk_mul, nI_leI, nI_ltI, nI_eq, pk_sub, ib_nI, nI_clamp, va_up_self, va_up_ne, va_up_up, va_up_comm, pk_us, pk_un, upd_up, updL_up, pk_uLs, pk_uLn, b01_1, b01_0, b01_1s, b01_0s, or_b, yI_nI, a13, a14, a3, a4, a15, a1, hm]
    simp [b01]
    exact Iff.rfl
  · rw [m] at hm
    simp (disch := omega) [w159_0, w159_1, w159_3, w159_6, w159_7, w159_9, w159_12, w159_13, w159_14, w159_17, w159_18, w159_19, w159_22, w159_23, w159_25, w159_28, w159_29, w159_30, w159_33, x159_34, w159_37, w159_40, w159_41, w159_44, w159_45, rt159, rt159, aw_st, ai_cls, ai_len, ai_p, ai_sw, ai_m, ai_c, ai_at, ai_isI, ai_isJ, ai_isA, ai_ld, ai_1i, ai_2i, ai_2l, ai_cn, ai_j, ai_set, ai_set2, ai_nl, ai_rs, ai_sm, Value.category, hk0, hk1, lits, litb, litm, litm2, List.getElem?_cons_zero, List.getElem?_cons_succ, or_n0, bit_r, fi0, fi1, fi2, fi3, nI_toInt, nI_add, pk_mul, nI_leI, nI_ltI, nI_eq, pk_sub, ib_nI, nI_clamp, va_up_self, va_up_ne, va_up_up, va_up_comm, pk_us, pk_un, upd_up, updL_up, pk_uLs, pk_uLn, b01_1, b01_0, b01_1s, b01_0s, or_b, yI_nI, a13, a14, a3, a4, a15, a1, hm]
    simp [b01]
    exact Iff.rfl
abbrev snBad (Q : List Value → Nat → Nat → ai_M → Prop) (sl : Nat) (c : TC) (X : mX) (Y : mY) (e j : Nat) : Prop := ∀ X' Y', FN X Y X' Y' → RDC c j (X' 2) (Y' 2) (nI e) → Q [.int (nI 0)] 231 sl (mem X' Y')
abbrev lfBad (Q : List Value → Nat → Nat → ai_M → Prop) (sl : Nat) (c : TC) (X : mX) (Y : mY) (s : (Nat × Nat) ⊕ (Nat × SC)) : Prop := ∀ e j, s = .inl (e, j) → snBad Q sl c X Y e j
abbrev lfOk (Q : List Value → Nat → Nat → ai_M → Prop) (sl : Nat) (c : TC) (X : mX) (Y : mY) (P S o : Nat) (L : List SC) (s : (Nat × Nat) ⊕ (Nat × SC)) : Prop := ∀ i2 z, s = .inr (i2, z) → i2 ≤ c.2.1 → okZ P S z → ¬ z.1 = 13 → ¬ (z.1 = 12 ∨ z.1 = 11) → ∀ X' Y', FN X Y X' Y' → RDC c i2 (X' 2) (Y' 2) (nI 0) → SS X' (L ++ [z]) o → Q [.int (nI 1)] 231 sl (mem X' Y')
set_option maxHeartbeats 8000000 in
theorem meas_wp (h : RDC c i (X 2) (Y 2) (nI 0)) (ok : OKc c X) (hi : i ≤ c.2.1) (hs : SS X L o) (hl : L.length < 40) (hy : isMs y = true) (hQ1 : lfBad Q sl c X Y (leafS c nm P S y i)) (hQ2 : lfOk Q sl c X Y P S o L (leafS c nm P S y i)) : aw ET G (d + 4) 162 0 [some (.ref 14), some (.ref 2), some (.int (nI y)), none, none] [] 231 sl (mem X Y) Q := by
  have hyy : 16 ≤ y ∧ y ≤ 20 := by
    unfold isMs at hy
    rw [Bool.and_eq_true] at hy
    exact ⟨of_decide_eq_true hy.1, of_decide_eq_true hy.2⟩
  have h4 : X 2 4 = nI (cK c i) := h.2.2.2.2.1
  have k256 : cK c i < 256 := tK_lt ok.1 ok.2.1 hi
  unfold leafS at hQ1 hQ2
  rw [if_neg (by omega), if_neg (by omega), if_pos hy] at hQ1 hQ2
  cases hc : isCm (cK c i)
  · rw [if_pos hc] at hQ1
    unfold isCm at hc
    simp only [Bool.or_eq_false_iff, decide_eq_false_iff_not] at hc
    obtain ⟨⟨n1, n2⟩, n3⟩ := hc
    have hre : ∀ (Q : List Value → Nat → Nat → ai_M → Prop), hBad Q sl c X Y (nI 0) 1 i → aw ET G (d + 3) 33 0 [some (.ref 2), some (.int (nI 1))] [] 231 sl (mem X Y) Q := fun Q q => Hrefused h q
    simp (disch := omega) [w162_0, x162_1_2, w162_4, w162_5, w162_6, w162_8, w162_11, w162_12, w162_14, w162_17, w162_18, w162_20, w162_23, w162_24, rt162, rt162, aw_st, ai_cls, ai_len, ai_p, ai_sw, ai_m, ai_c, ai_at, ai_isI, ai_isJ, ai_isA, ai_ld, ai_1i, ai_2i, ai_2l, ai_cn, ai_j, ai_set, ai_set2, ai_nl, ai_rs, ai_sm, Value.category, hk0, hk1, lits, litb, litm, litm2, List.getElem?_cons_zero, List.getElem?_cons_succ, or_n0, bit_r, fi0, fi1, fi2, fi3, nI_toInt, nI_add, pk_mul, nI_leI, nI_ltI, nI_eq, pk_sub, ib_nI, nI_clamp, va_up_self, va_up_ne, va_up_up, va_up_comm, pk_us, pk_un, upd_up, updL_up, pk_uLs, pk_uLn, b01_1, b01_0, b01_1s, b01_0s, or_b, h4, n1, n2, n3]
    rw [x162_25_2, if_pos (by decide)]
    refine hre _ (fun X' Y' f r => ?_)
    simp (disch := omega) [w162_28, rt162, rt162, aw_st, ai_cls, ai_len, ai_p, ai_sw, ai_m, ai_c, ai_at, ai_isI, ai_isJ, ai_isA, ai_ld, ai_1i, ai_2i, ai_2l, ai_cn, ai_j, ai_set, ai_set2, ai_nl, ai_rs, ai_sm, Value.category, hk0, hk1, lits, litb, litm, litm2, List.getElem?_cons_zero, List.getElem?_cons_succ, or_n0, bit_r, fi0, fi1, fi2, fi3, nI_toInt, nI_add, pk_mul, nI_leI, nI_ltI, nI_eq, pk_sub, ib_nI, nI_clamp, va_up_self, va_up_ne, va_up_up, va_up_comm, pk_us, pk_un, upd_up, updL_up, pk_uLs, pk_uLn, b01_1, b01_0, b01_1s, b01_0s, or_b]
    exact hQ1 1 i rfl X' Y' f.fn r
  · rw [if_neg (by rw [hc]; decide)] at hQ1 hQ2
    have h3 : cK c i = 60 ∨ cK c i = 61 ∨ cK c i = 62 := by
      have := hc
      unfold isCm at this
      simp only [Bool.or_eq_true, decide_eq_true_eq] at this
      omega
    have g29 : aw ET G (d + 4) 162 29 [some (.ref 14), some (.ref 2), some (.int (nI y)), some (.int (nI (cK c i))), none] [] 231 sl (mem X Y) Q := by
      simp (disch := omega) [w162_29, rt162, rt162, aw_st, ai_cls, ai_len, ai_p, ai_sw, ai_m, ai_c, ai_at, ai_isI, ai_isJ, ai_isA, ai_ld, ai_1i, ai_2i, ai_2l, ai_cn, ai_j, ai_set, ai_set2, ai_nl, ai_rs, ai_sm, Value.category, hk0, hk1, lits, litb, litm, litm2, List.getElem?_cons_zero, List.getElem?_cons_succ, or_n0, bit_r, fi0, fi1, fi2, fi3, nI_toInt, nI_add, pk_mul, nI_leI, nI_ltI, nI_eq, pk_sub, ib_nI, nI_clamp, va_up_self, va_up_ne, va_up_up, va_up_comm, pk_us, pk_un, upd_up, updL_up, pk_uLs, pk_uLn, b01_1, b01_0, b01_1s, b01_0s, or_b]
      rw [x162_30_2, if_pos (by decide)]
      refine Hstep h ok hi (fun X1 Y1 f1 r1 => ?_)
      simp (disch := omega) [w162_33, w162_34, w162_35, rt162, rt162, aw_st, ai_cls, ai_len, ai_p, ai_sw, ai_m, ai_c, ai_at, ai_isI, ai_isJ, ai_isA, ai_ld, ai_1i, ai_2i, ai_2l, ai_cn, ai_j, ai_set, ai_set2, ai_nl, ai_rs, ai_sm, Value.category, hk0, hk1, lits, litb, litm, litm2, List.getElem?_cons_zero, List.getElem?_cons_succ, or_n0, bit_r, fi0, fi1, fi2, fi3, nI_toInt, nI_add, pk_mul, nI_leI, nI_ltI, nI_eq, pk_sub, ib_nI, nI_clamp, va_up_self, va_up_ne, va_up_up, va_up_comm, pk_us, pk_un, upd_up, updL_up, pk_uLs, pk_uLn, b01_1, b01_0, b01_1s, b01_0s, or_b]
      rw [x162_38_2, if_pos (by decide)]
      refine Hnum r1 (OKc_h ok f1) (cA_le hi) (by omega) (by omega) (fun e j s X2 Y2 f2 r2 => ?_) (fun a i2 s ha hi2 X2 Y2 f2 r2 => ?_)
      · simp (disch := omega) [w162_41, w162_43, w162_45, w162_46, w162_49, w162_50, w162_51, w162_52, x162_54_14, w162_57, w162_60, w162_61, w162_64, w162_65, rt162, rt162, aw_st, ai_cls, ai_len, ai_p, ai_sw, ai_m, ai_c, ai_at, ai_isI, ai_isJ, ai_isA, ai_ld, ai_1i, ai_2i, ai_2l, ai_cn, ai_j, ai_set, ai_set2, ai_nl, ai_rs, ai_sm, Value.category, hk0, hk1, lits, litb, litm, litm2, List.getElem?_cons_zero, List.getElem?_cons_succ, or_n0, bit_r, fi0, fi1, fi2, fi3, nI_toInt, nI_add, pk_mul, nI_leI, nI_ltI, nI_eq, pk_sub, ib_nI, nI_clamp, va_up_self, va_up_ne, va_up_up, va_up_comm, pk_us, pk_un, upd_up, updL_up, pk_uLs, pk_uLn, b01_1, b01_0, b01_1s, b01_0s, or_b]
        refine hQ1 e j ?_ X2 Y2 (f1.tr f2).fn r2
        rw [s]
      · have s2 := SS_h (SS_h hs f1) f2
        have ha2 := fun (Q : List Value → Nat → Nat → ai_M → Prop) => addStep_eq (G := G) (d := d + 3) (sl := sl) (Q := Q) (X := X2) (Y := Y2) (L := L) (z := (y, cK c i, a)) s2.2.1 hl
        have na : ¬ nI a = mi1 := nI_mi1 (by omega)
        simp (disch := omega) [w162_41, w162_43, w162_45, w162_46, w162_49, w162_50, w162_51, w162_52, x162_54_14, w162_57, w162_60, w162_61, w162_64, w162_65, rt162, rt162, aw_st, ai_cls, ai_len, ai_p, ai_sw, ai_m, ai_c, ai_at, ai_isI, ai_isJ, ai_isA, ai_ld, ai_1i, ai_2i, ai_2l, ai_cn, ai_j, ai_set, ai_set2, ai_nl, ai_rs, ai_sm, Value.category, hk0, hk1, lits, litb, litm, litm2, List.getElem?_cons_zero, List.getElem?_cons_succ, or_n0, bit_r, fi0, fi1, fi2, fi3, nI_toInt, nI_add, pk_mul, nI_leI, nI_ltI, nI_eq, pk_sub, ib_nI, nI_clamp, va_up_self, va_up_ne, va_up_up, va_up_comm, pk_us, pk_un, upd_up, updL_up, pk_uLs, pk_uLn, b01_1, b01_0, b01_1s, b01_0s, or_b, na, ha2]
        refine hQ2 i2 (y, cK c i, a) ?_ hi2 (Or.inr (Or.inr (Or.inr (Or.inr (Or.inr (Or.inr (Or.inr (Or.inr ⟨hy, hc, ha⟩)))))))) (by show ¬ y = 13; omega) (by show ¬ (y = 12 ∨ y = 11); omega) _ _ ((f1.tr f2).fn.tr FN_ad) (by rw [ad_2]; exact r2) (SS_ad s2)
        rw [s]
    rcases h3 with q | q | q
    · rw [q] at g29 h4
      simp (disch := omega) [w162_0, x162_1_2, w162_4, w162_5, w162_6, w162_8, w162_11, w162_12, w162_14, w162_17, w162_18, w162_20, rt162, rt162, aw_st, ai_cls, ai_len, ai_p, ai_sw, ai_m, ai_c, ai_at, ai_isI, ai_isJ, ai_isA, ai_ld, ai_1i, ai_2i, ai_2l, ai_cn, ai_j, ai_set, ai_set2, ai_nl, ai_rs, ai_sm, Value.category, hk0, hk1, lits, litb, litm, litm2, List.getElem?_cons_zero, List.getElem?_cons_succ, or_n0, bit_r, fi0, fi1, fi2, fi3, nI_toInt, nI_add, pk_mul, nI_leI, nI_ltI, nI_eq, pk_sub, ib_nI, nI_clamp, va_up_self, va_up_ne, va_up_up, va_up_comm, pk_us, pk_un, upd_up, updL_up, pk_uLs, pk_uLn, b01_1, b01_0, b01_1s, b01_0s, or_b, h4]
      exact g29
    · rw [q] at g29 h4
      simp (disch := omega) [w162_0, x162_1_2, w162_4, w162_5, w162_6, w162_8, w162_11, w162_12, w162_14, w162_17, w162_18, w162_20, rt162, rt162, aw_st, ai_cls, ai_len, ai_p, ai_sw, ai_m, ai_c, ai_at, ai_isI, ai_isJ, ai_isA, ai_ld, ai_1i, ai_2i, ai_2l, ai_cn, ai_j, ai_set, ai_set2, ai_nl, ai_rs, ai_sm, Value.category, hk0, hk1, lits, litb, litm, litm2, List.getElem?_cons_zero, List.getElem?_cons_succ, or_n0, bit_r, fi0, fi1, fi2, fi3, nI_toInt, nI_add, pk_mul, nI_leI, nI_ltI, nI_eq, pk_sub, ib_nI, nI_clamp, va_up_self, va_up_ne, va_up_up, va_up_comm, pk_us, pk_un, upd_up, updL_up, pk_uLs, pk_uLn, b01_1, b01_0, b01_1s, b01_0s, or_b, h4]
      exact g29
    · rw [q] at g29 h4
      simp (disch := omega) [w162_0, x162_1_2, w162_4, w162_5, w162_6, w162_8, w162_11, w162_12, w162_14, w162_17, w162_18, w162_20, rt162, rt162, aw_st, ai_cls, ai_len, ai_p, ai_sw, ai_m, ai_c, ai_at, ai_isI, ai_isJ, ai_isA, ai_ld, ai_1i, ai_2i, ai_2l, ai_cn, ai_j, ai_set, ai_set2, ai_nl, ai_rs, ai_sm, Value.category, hk0, hk1, lits, litb, litm, litm2, List.getElem?_cons_zero, List.getElem?_cons_succ, or_n0, bit_r, fi0, fi1, fi2, fi3, nI_toInt, nI_add, pk_mul, nI_leI, nI_ltI, nI_eq, pk_sub, ib_nI, nI_clamp, va_up_self, va_up_ne, va_up_up, va_up_comm, pk_us, pk_un, upd_up, updL_up, pk_uLs, pk_uLn, b01_1, b01_0, b01_1s, b01_0s, or_b, h4]
      exact g29
end SNC
