/-! A SENTENCE's text: the class, leaves -/
section SND
variable {G : ai_G} {d sl : Nat} {Q : List Value → Nat → Nat → ai_M → Prop} {Y : mY} {X : mX} {c : TC} {i P S o y : Nat} {nm : Nat → List Nat} {L : List SC}
set_option maxHeartbeats 8000000 in
theorem plain_wp (ht : TN X Y nm P S) (h : RDC c i (X 2) (Y 2) (nI 0)) (ok : OKc c X) (hi : i ≤ c.2.1) (hs : SS X L o) (hl : L.length < 40) (hb : isBg y = true) (hm : isMs y = false) (h13 : ¬ y = 13) (hQ1 : lfBad Q sl c X Y (leafS c nm P S y i)) (hQ2 : lfOk Q sl c X Y P S o L (leafS c nm P S y i)) : aw ET G (d + 4) 163 0 [some (.ref 14), some (.ref 2), some (.ref 47), some (.int (nI y)), none] [] 231 sl (mem X Y) Q := by
  have hy21 : y ≤ 20 := by
    unfold isBg at hb
    rw [hm] at hb
    simp only [Bool.or_eq_true, decide_eq_true_eq, Bool.or_false] at hb
    omega
  obtain ⟨t1, t2, t3, t4, t5, t6⟩ := ht
  have fin : ∀ (k : Nat) (X1 : mX) (Y1 : mY), k ≤ 8 → HC X Y X1 Y1 → (∀ X' Y', FN X Y X' Y' → X' 2 = X1 2 → Y' 2 = Y1 2 → SS X' (L ++ [(y, 0, k)]) o → Q [.int (nI 1)] 231 sl (mem X' Y')) → aw ET G (d + 4) 163 31 [some (.ref 14), some (.ref 2), some (.ref 47), some (.int (nI y)), some (.int (nI k))] [] 231 sl (mem X1 Y1) Q := by
    intro k X1 Y1 hk f1 hq
    have s1 := SS_h hs f1
    have ha := fun (Q : List Value → Nat → Nat → ai_M → Prop) => addStep_eq (G := G) (d := d + 3) (sl := sl) (Q := Q) (X := X1) (Y := Y1) (L := L) (z := (y, 0, k)) s1.2.1 hl
    have na : ¬ nI k = mi1 := nI_mi1 (by omega)
    simp (disch := omega) [w163_31, w163_33, w163_34, w163_37, w163_38, w163_39, w163_40, x163_42_14, w163_45, w163_48, w163_49, w163_52, w163_53, rt163, rt163, aw_st, ai_cls, ai_len, ai_p, ai_sw, ai_m, ai_c, ai_at, ai_isI, ai_isJ, ai_isA, ai_ld, ai_1i, ai_2i, ai_2l, ai_cn, ai_j, ai_set, ai_set2, ai_nl, ai_rs, ai_sm, Value.category, hk0, hk1, lits, litb, litm, litm2, List.getElem?_cons_zero, List.getElem?_cons_succ, or_n0, bit_r, fi0, fi1, fi2, fi3, nI_toInt, nI_add, pk_mul, nI_leI, nI_ltI, nI_eq, pk_sub, ib_nI, nI_clamp, va_up_self, va_up_ne, va_up_up, va_up_comm, pk_us, pk_un, upd_up, updL_up, pk_uLs, pk_uLn, b01_1, b01_0, b01_1s, b01_0s, or_b, na, ha]
    exact hq _ _ (f1.fn.tr FN_ad) ad_2 rfl (SS_ad s1)
  have bad : ∀ (X1 : mX) (Y1 : mY), Q [.int (nI 0)] 231 sl (mem X1 Y1) → aw ET G (d + 4) 163 31 [some (.ref 14), some (.ref 2), some (.ref 47), some (.int (nI y)), some (.int mi1)] [] 231 sl (mem X1 Y1) Q := by
    intro X1 Y1 hq
    simp (disch := omega) [w163_31, w163_33, w163_34, w163_52, w163_53, rt163, rt163, aw_st, ai_cls, ai_len, ai_p, ai_sw, ai_m, ai_c, ai_at, ai_isI, ai_isJ, ai_isA, ai_ld, ai_1i, ai_2i, ai_2l, ai_cn, ai_j, ai_set, ai_set2, ai_nl, ai_rs, ai_sm, Value.category, hk0, hk1, lits, litb, litm, litm2, List.getElem?_cons_zero, List.getElem?_cons_succ, or_n0, bit_r, fi0, fi1, fi2, fi3, nI_toInt, nI_add, pk_mul, nI_leI, nI_ltI, nI_eq, pk_sub, ib_nI, nI_clamp, va_up_self, va_up_ne, va_up_up, va_up_comm, pk_us, pk_un, upd_up, updL_up, pk_uLs, pk_uLn, b01_1, b01_0, b01_1s, b01_0s, or_b]
    exact hq
  unfold leafS at hQ1 hQ2
  by_cases y15 : y = 15
  · rw [if_pos y15] at hQ1 hQ2
    simp (disch := omega) [w163_0, w163_1, w163_3, w163_4, w163_6, w163_9, w163_10, rt163, rt163, aw_st, ai_cls, ai_len, ai_p, ai_sw, ai_m, ai_c, ai_at, ai_isI, ai_isJ, ai_isA, ai_ld, ai_1i, ai_2i, ai_2l, ai_cn, ai_j, ai_set, ai_set2, ai_nl, ai_rs, ai_sm, Value.category, hk0, hk1, lits, litb, litm, litm2, List.getElem?_cons_zero, List.getElem?_cons_succ, or_n0, bit_r, fi0, fi1, fi2, fi3, nI_toInt, nI_add, pk_mul, nI_leI, nI_ltI, nI_eq, pk_sub, ib_nI, nI_clamp, va_up_self, va_up_ne, va_up_up, va_up_comm, pk_us, pk_un, upd_up, updL_up, pk_uLs, pk_uLn, b01_1, b01_0, b01_1s, b01_0s, or_b, y15]
    rw [x163_11_2, if_pos (by decide)]
    refine Hstory (S := S) (nm := nmS nm) h ok hi t2 t4 t6 (fun e j s X2 Y2 f2 r2 => ?_) (fun k s hk X2 Y2 f2 r2 => ?_)
    · simp (disch := omega) [w163_14, w163_16, rt163, rt163, aw_st, ai_cls, ai_len, ai_p, ai_sw, ai_m, ai_c, ai_at, ai_isI, ai_isJ, ai_isA, ai_ld, ai_1i, ai_2i, ai_2l, ai_cn, ai_j, ai_set, ai_set2, ai_nl, ai_rs, ai_sm, Value.category, hk0, hk1, lits, litb, litm, litm2, List.getElem?_cons_zero, List.getElem?_cons_succ, or_n0, bit_r, fi0, fi1, fi2, fi3, nI_toInt, nI_add, pk_mul, nI_leI, nI_ltI, nI_eq, pk_sub, ib_nI, nI_clamp, va_up_self, va_up_ne, va_up_up, va_up_comm, pk_us, pk_un, upd_up, updL_up, pk_uLs, pk_uLn, b01_1, b01_0, b01_1s, b01_0s, or_b]
      have := bad X2 Y2
      rw [y15] at this
      refine this (hQ1 e j ?_ X2 Y2 f2.fn r2)
      rw [s]
    · simp (disch := omega) [w163_14, w163_16, rt163, rt163, aw_st, ai_cls, ai_len, ai_p, ai_sw, ai_m, ai_c, ai_at, ai_isI, ai_isJ, ai_isA, ai_ld, ai_1i, ai_2i, ai_2l, ai_cn, ai_j, ai_set, ai_set2, ai_nl, ai_rs, ai_sm, Value.category, hk0, hk1, lits, litb, litm, litm2, List.getElem?_cons_zero, List.getElem?_cons_succ, or_n0, bit_r, fi0, fi1, fi2, fi3, nI_toInt, nI_add, pk_mul, nI_leI, nI_ltI, nI_eq, pk_sub, ib_nI, nI_clamp, va_up_self, va_up_ne, va_up_up, va_up_comm, pk_us, pk_un, upd_up, updL_up, pk_uLs, pk_uLn, b01_1, b01_0, b01_1s, b01_0s, or_b]
      have := fin k X2 Y2 (by omega) f2
      rw [y15] at this
      refine this (fun X' Y' f a b q => hQ2 (cA c i) (15, 0, k) ?_ (cA_le hi) (Or.inr (Or.inr (Or.inr (Or.inr (Or.inr (Or.inr (Or.inl ⟨rfl, rfl, hk⟩))))))) (by show ¬ 15 = 13; decide) (by show ¬ (15 = 12 ∨ 15 = 11); decide) X' Y' f (by rw [a, b]; exact r2) q)
      rw [s]
  · rw [if_neg y15] at hQ1 hQ2
    by_cases y1 : y = 1
    · rw [if_pos y1] at hQ1 hQ2
      simp (disch := omega) [w163_0, w163_1, w163_3, w163_4, w163_6, w163_9, w163_10, x163_11_2, w163_14, w163_16, w163_19, w163_20, w163_21, w163_24, w163_25, rt163, rt163, aw_st, ai_cls, ai_len, ai_p, ai_sw, ai_m, ai_c, ai_at, ai_isI, ai_isJ, ai_isA, ai_ld, ai_1i, ai_2i, ai_2l, ai_cn, ai_j, ai_set, ai_set2, ai_nl, ai_rs, ai_sm, Value.category, hk0, hk1, lits, litb, litm, litm2, List.getElem?_cons_zero, List.getElem?_cons_succ, or_n0, bit_r, fi0, fi1, fi2, fi3, nI_toInt, nI_add, pk_mul, nI_leI, nI_ltI, nI_eq, pk_sub, ib_nI, nI_clamp, va_up_self, va_up_ne, va_up_up, va_up_comm, pk_us, pk_un, upd_up, updL_up, pk_uLs, pk_uLn, b01_1, b01_0, b01_1s, b01_0s, or_b, y1]
      rw [x163_26_2, if_pos (by decide)]
      refine Hperson (P := P) (nm := nm) h ok hi t1 t3 t5 (fun e j s X2 Y2 f2 r2 => ?_) (fun k s hk X2 Y2 f2 r2 => ?_)
      · simp (disch := omega) [w163_29, rt163, rt163, aw_st, ai_cls, ai_len, ai_p, ai_sw, ai_m, ai_c, ai_at, ai_isI, ai_isJ, ai_isA, ai_ld, ai_1i, ai_2i, ai_2l, ai_cn, ai_j, ai_set, ai_set2, ai_nl, ai_rs, ai_sm, Value.category, hk0, hk1, lits, litb, litm, litm2, List.getElem?_cons_zero, List.getElem?_cons_succ, or_n0, bit_r, fi0, fi1, fi2, fi3, nI_toInt, nI_add, pk_mul, nI_leI, nI_ltI, nI_eq, pk_sub, ib_nI, nI_clamp, va_up_self, va_up_ne, va_up_up, va_up_comm, pk_us, pk_un, upd_up, updL_up, pk_uLs, pk_uLn, b01_1, b01_0, b01_1s, b01_0s, or_b]
        have := bad X2 Y2
        rw [y1] at this
        refine this (hQ1 e j ?_ X2 Y2 f2.fn r2)
        rw [s]
      · simp (disch := omega) [w163_29, rt163, rt163, aw_st, ai_cls, ai_len, ai_p, ai_sw, ai_m, ai_c, ai_at, ai_isI, ai_isJ, ai_isA, ai_ld, ai_1i, ai_2i, ai_2l, ai_cn, ai_j, ai_set, ai_set2, ai_nl, ai_rs, ai_sm, Value.category, hk0, hk1, lits, litb, litm, litm2, List.getElem?_cons_zero, List.getElem?_cons_succ, or_n0, bit_r, fi0, fi1, fi2, fi3, nI_toInt, nI_add, pk_mul, nI_leI, nI_ltI, nI_eq, pk_sub, ib_nI, nI_clamp, va_up_self, va_up_ne, va_up_up, va_up_comm, pk_us, pk_un, upd_up, updL_up, pk_uLs, pk_uLn, b01_1, b01_0, b01_1s, b01_0s, or_b]
        have := fin k X2 Y2 (by omega) f2
        rw [y1] at this
        refine this (fun X' Y' f a b q => hQ2 (cA c i) (1, 0, k) ?_ (cA_le hi) (Or.inr (Or.inr (Or.inr (Or.inr (Or.inr (Or.inr (Or.inr (Or.inl ⟨rfl, rfl, hk⟩)))))))) (by show ¬ 1 = 13; decide) (by show ¬ (1 = 12 ∨ 1 = 11); decide) X' Y' f (by rw [a, b]; exact r2) q)
        rw [s]
    · rw [if_neg y1, if_neg (by rw [hm]; decide)] at hQ1 hQ2
      have hz : y = 14 ∨ y = 3 ∨ y = 4 := by
        unfold isBg at hb
        rw [hm] at hb
        simp only [Bool.or_eq_true, decide_eq_true_eq, Bool.or_false] at hb
        omega
      have hok : okZ P S (y, 0, 0) := by
        rcases hz with rfl | rfl | rfl
        · exact Or.inr (Or.inr (Or.inr (Or.inl rfl)))
        · exact Or.inr (Or.inr (Or.inr (Or.inr (Or.inl rfl))))
        · exact Or.inr (Or.inr (Or.inr (Or.inr (Or.inr (Or.inl rfl)))))
      simp (disch := omega) [w163_0, w163_1, w163_3, w163_4, w163_6, w163_9, w163_10, x163_11_2, w163_14, w163_16, w163_19, w163_20, w163_21, rt163, rt163, aw_st, ai_cls, ai_len, ai_p, ai_sw, ai_m, ai_c, ai_at, ai_isI, ai_isJ, ai_isA, ai_ld, ai_1i, ai_2i, ai_2l, ai_cn, ai_j, ai_set, ai_set2, ai_nl, ai_rs, ai_sm, Value.category, hk0, hk1, lits, litb, litm, litm2, List.getElem?_cons_zero, List.getElem?_cons_succ, or_n0, bit_r, fi0, fi1, fi2, fi3, nI_toInt, nI_add, pk_mul, nI_leI, nI_ltI, nI_eq, pk_sub, ib_nI, nI_clamp, va_up_self, va_up_ne, va_up_up, va_up_comm, pk_us, pk_un, upd_up, updL_up, pk_uLs, pk_uLn, b01_1, b01_0, b01_1s, b01_0s, or_b, y15, y1]
      exact fin 0 X Y (by omega) ⟨fun _ _ => rfl, fun _ _ => rfl⟩ (fun X' Y' f a b q => hQ2 i (y, 0, 0) rfl hi hok (by show ¬ y = 13; omega) (by show ¬ (y = 12 ∨ y = 11); omega) X' Y' f (by rw [a, b]; exact h) q)
end SND
