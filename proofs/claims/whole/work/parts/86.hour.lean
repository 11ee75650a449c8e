/-! HOUR: the class, II -/
section HOV
variable {G : ai_G} {d sl : Nat} {Q : List Value → Nat → Nat → ai_M → Prop} {P : Nat} {Y : mY} {X : mX}
set_option maxHeartbeats 4000000 in
theorem harr_zero {m : Int32} : ∀ (r i : Nat) (pr b : Nat → Int32), i + r = 8 → (∀ q, q < i → pr q = 0) → (∀ q, q < i → b q = 0) → (∀ pr' b', (∀ q, q < 8 → pr' q = 0) → (∀ q, q < 8 → b' q = 0) → aw ET G d 100 44 [some (.ref 35), some (.ref 61), some (.int (nI 8))] [] 231 sl (mem (hsX X pr' b' m) Y) Q) → aw ET G d 100 18 [some (.ref 35), some (.ref 61), some (.int (nI i))] [] 231 sl (mem (hsX X pr b m) Y) Q := by
  intro r
  induction r with
  | zero =>
    intro i pr b hi h0 h1 hQ
    have : i = 8 := by omega
    subst this
    have := hQ pr b h0 h1
    simp (disch := omega) [w100_18, w100_19, w100_21, aw_st, ai_cls, ai_len, ai_p, ai_sw, ai_m, ai_c, ai_at, ai_isI, ai_isJ, ai_isA, ai_ld, ai_1i, ai_2i, ai_2l, ai_cn, ai_j, ai_set, ai_set2, ai_nl, ai_rs, ai_sm, Value.category, hk0, hk1, lits, litb, litm, litm2, List.getElem?_cons_zero, List.getElem?_cons_succ, or_n0, bit_r, fi0, fi1, fi2, fi3, nI_toInt, nI_add, pk_mul, nI_leI, nI_ltI, nI_eq, pk_sub, ib_nI, nI_clamp, va_up_self, va_up_ne, va_up_up, va_up_comm, pk_us, pk_un, upd_up, updL_up, pk_uLs, pk_uLn, b01_1, b01_0, b01_1s, b01_0s, or_b]
    exact this
  | succ r ih =>
    intro i pr b hi h0 h1 hQ
    have i1 := ih (i + 1) (upd pr i (nI 0)) (upd b i (nI 0)) (by omega) (fun q hq => by
      by_cases e : q = i
      · subst e; simp [upd]; rfl
      · rw [pk_un e]; exact h0 q (by omega)) (fun q hq => by
      by_cases e : q = i
      · subst e; simp [upd]; rfl
      · rw [pk_un e]; exact h1 q (by omega)) hQ
    rw [w100_18]
    unfold hsX at i1 ⊢
    simp (disch := omega) [w100_19, w100_21, w100_24, x100_25_35, w100_28, w100_29, w100_30, w100_31, x100_32_35, w100_35, w100_36, w100_37, w100_38, w100_41, aw_st, ai_cls, ai_len, ai_p, ai_sw, ai_m, ai_c, ai_at, ai_isI, ai_isJ, ai_isA, ai_ld, ai_1i, ai_2i, ai_2l, ai_cn, ai_j, ai_set, ai_set2, ai_nl, ai_rs, ai_sm, Value.category, hk0, hk1, lits, litb, litm, litm2, List.getElem?_cons_zero, List.getElem?_cons_succ, or_n0, bit_r, fi0, fi1, fi2, fi3, nI_toInt, nI_add, pk_mul, nI_leI, nI_ltI, nI_eq, pk_sub, ib_nI, nI_clamp, va_up_self, va_up_ne, va_up_up, va_up_comm, pk_us, pk_un, upd_up, updL_up, pk_uLs, pk_uLn, b01_1, b01_0, b01_1s, b01_0s, or_b, mm36, mu36, mm37, mu37, show ¬ 8 ≤ i by omega]
    exact i1
set_option maxHeartbeats 4000000 in
theorem arrange_wp (hG : G.1 = false) (hP : P ≤ 8) (hk : X 47 7 = nI P) (hQ : ∀ pr0 b0, (∀ q, q < 8 → pr0 q = 0) → (∀ q, q < 8 → b0 q = 0) → Q [.int (hT (lv X 61) (cv X 47) P 8 0 0 pr0 (b0, mi1)).2] 231 sl (mem (hsX (va_up X 35 (upd (X 35) 3 (nI P))) pr0 (hT (lv X 61) (cv X 47) P 8 0 0 pr0 (b0, mi1)).1 (hT (lv X 61) (cv X 47) P 8 0 0 pr0 (b0, mi1)).2) Y)) : aw ET G (d + 20) 100 0 [some (.ref 35), some (.ref 61), none] [] 231 sl (mem X Y) Q := by
  have el : lv (va_up X 35 (upd (X 35) 3 (nI P))) 61 = lv X 61 := lv_up (by omega)
  have ec : cv (va_up X 35 (upd (X 35) 3 (nI P))) 47 = cv X 47 := cv_up (by omega)
  have hz := harr_zero (G := G) (d := d + 20) (sl := sl) (Q := Q) (Y := Y) (X := va_up X 35 (upd (X 35) 3 (nI P))) (m := mi1) 8 0 (X 36) (X 37) (by omega) (fun q hq => by omega) (fun q hq => by omega) (fun pr' b' h0 h1 => by
    have ht := fun (Q : List Value → Nat → Nat → ai_M → Prop) => tryFrom_eq (G := G) (sl := sl) (Y := Y) (X := va_up X 35 (upd (X 35) 3 (nI P))) hG hP (by simp [va_up, upd]) 8 d 0 (nI 0) pr' b' mi1 Q (by omega) (by omega)
    rw [el, ec] at ht
    simp only [show d + 2 * 8 + 3 = d + 19 by omega] at ht
    simp (disch := omega) [w100_44, w100_45, w100_46, w100_47, x100_48_35, aw_st, ai_cls, ai_len, ai_p, ai_sw, ai_m, ai_c, ai_at, ai_isI, ai_isJ, ai_isA, ai_ld, ai_1i, ai_2i, ai_2l, ai_cn, ai_j, ai_set, ai_set2, ai_nl, ai_rs, ai_sm, Value.category, hk0, hk1, lits, litb, litm, litm2, List.getElem?_cons_zero, List.getElem?_cons_succ, or_n0, bit_r, fi0, fi1, fi2, fi3, nI_toInt, nI_add, pk_mul, nI_leI, nI_ltI, nI_eq, pk_sub, ib_nI, nI_clamp, va_up_self, va_up_ne, va_up_up, va_up_comm, pk_us, pk_un, upd_up, updL_up, pk_uLs, pk_uLn, b01_1, b01_0, b01_1s, b01_0s, or_b, ht]
    have := hQ pr' b' h0 h1
    unfold hsX at this ⊢
    simp (disch := omega) [w100_51, x100_52_35, w100_55, rt100, aw_st, ai_cls, ai_len, ai_p, ai_sw, ai_m, ai_c, ai_at, ai_isI, ai_isJ, ai_isA, ai_ld, ai_1i, ai_2i, ai_2l, ai_cn, ai_j, ai_set, ai_set2, ai_nl, ai_rs, ai_sm, Value.category, hk0, hk1, lits, litb, litm, litm2, List.getElem?_cons_zero, List.getElem?_cons_succ, or_n0, bit_r, fi0, fi1, fi2, fi3, nI_toInt, nI_add, pk_mul, nI_leI, nI_ltI, nI_eq, pk_sub, ib_nI, nI_clamp, va_up_self, va_up_ne, va_up_up, va_up_comm, pk_us, pk_un, upd_up, updL_up, pk_uLs, pk_uLn, b01_1, b01_0, b01_1s, b01_0s, or_b]
    simp (disch := omega) [va_up_up, va_up_self, upd_up] at this
    exact this)
  have e : hsX (va_up X 35 (upd (X 35) 3 (nI P))) (X 36) (X 37) mi1 = va_up X 35 (upd (upd (X 35) 3 (nI P)) 2 mi1) := by
    funext j
    simp only [hsX, va_up]
    by_cases h1 : j = 37
    · subst h1; simp
    · by_cases h2 : j = 36
      · subst h2; simp
      · by_cases h3 : j = 35
        · subst h3; simp
        · simp [h1, h2, h3]
  rw [e] at hz
  simp (disch := omega) [w100_0, w100_1, x100_2_61, x100_5_47, x100_8, w100_11, w100_12, x100_13, w100_16, w100_17, aw_st, ai_cls, ai_len, ai_p, ai_sw, ai_m, ai_c, ai_at, ai_isI, ai_isJ, ai_isA, ai_ld, ai_1i, ai_2i, ai_2l, ai_cn, ai_j, ai_set, ai_set2, ai_nl, ai_rs, ai_sm, Value.category, hk0, hk1, lits, litb, litm, litm2, List.getElem?_cons_zero, List.getElem?_cons_succ, or_n0, bit_r, fi0, fi1, fi2, fi3, nI_toInt, nI_add, pk_mul, nI_leI, nI_ltI, nI_eq, pk_sub, ib_nI, nI_clamp, va_up_self, va_up_ne, va_up_up, va_up_comm, pk_us, pk_un, upd_up, updL_up, pk_uLs, pk_uLn, b01_1, b01_0, b01_1s, b01_0s, or_b, hk]
  exact hz
end HOV
