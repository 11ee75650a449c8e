/-! TALKED: the class, the last talk of a set -/
section TTP
variable {G : ai_G} {d sl : Nat} {Q : List Value → Nat → Nat → ai_M → Prop} {Y : mY} {X : mX} {P : Nat} {S : tS}
/-- what the class has found -/
def KF (X0 X : mX) (P : Nat) (S : tS) : Prop := X 42 6 = nI S.1 ∧ X 42 5 = nI P ∧ (S.1 = 0 → X 42 3 = X0 42 3 ∧ X 42 4 = X0 42 4 ∧ X 45 = X0 45) ∧ (¬ S.1 = 0 → S.2.1 ≤ 3 ∧ X 42 3 = nI S.2.1 ∧ X 42 4 = nI P ∧ ∀ i, i < S.2.1 → X 45 i = nI (tcd S i) ∧ tcd S i < 108)
theorem KF_cg {X0 X' : mX} (h : KF X0 X P S) (a : X' 42 = X 42) (b : X' 45 = X 45) : KF X0 X' P S := by
  unfold KF at h ⊢
  rw [a, b]
  exact h
theorem cpy3 {f g : Nat → Int32} {i : Nat} (h : i < 3) : va_cpy f g 0 0 3 i = f i := by
  rw [pk_cpy_in (by omega) (by omega)]
  congr 1
  omega
theorem nI0p1 : nI 0 + nI 1 = nI 1 := by decide
theorem tc0 : (nI 0).toNatClampNeg = 0 := rfl
theorem tc3 : (nI 3).toNatClampNeg = 3 := rfl
set_option maxHeartbeats 4000000 in
theorem tkeep_wp {X0 : mX} {n a b e : Nat} (hG : G.1 = false) (hk : KF X0 X P S) (h44 : ∀ i, i < n → X 44 i = nI (tcd (0, n, a, b, e) i) ∧ tcd (0, n, a, b, e) i < 108) (hn : n ≤ 3) (hS : S.1 < 2000000) (hQ : ∀ X', (∀ j, ¬ j = 42 → ¬ j = 45 → X' j = X j) → KF X0 X' P (tlS true n a b e S) → Q [] 231 sl (mem X' Y)) : aw ET G (d + 1) 125 0 [some (.ref 42), some (.int (nI n))] [] 231 sl (mem X Y) Q := by
  obtain ⟨h1, h2, h3, h4⟩ := hk
  by_cases c : S.1 = 0
  · rw [c] at h1
    simp (disch := omega) [w125_0, x125_1_42, w125_4, w125_7, x125_8_42, w125_11, w125_12, x125_13_42, w125_16, w125_17, w125_18, w125_21, w125_22, x125_23, w125_26, w125_27, x125_28_42, x125_31, w125_34, w125_35, x125_36_42, w125_39, w125_40, x125_41, w125_44, rt125, ow125, pl9_77, rt125, aw_st, ai_cls, ai_len, ai_p, ai_sw, ai_m, ai_c, ai_at, ai_isI, ai_isJ, ai_isA, ai_ld, ai_1i, ai_2i, ai_2l, ai_cn, ai_j, ai_set, ai_set2, ai_nl, ai_rs, ai_sm, Value.category, hk0, hk1, lits, litb, litm, litm2, List.getElem?_cons_zero, List.getElem?_cons_succ, or_n0, bit_r, fi0, fi1, fi2, fi3, nI_toInt, nI_add, pk_mul, nI_leI, nI_ltI, nI_eq, ib_nI, nI_clamp, va_up_self, va_up_ne, va_up_up, va_up_comm, pk_us, pk_un, upd_up, updL_up, pk_uLs, pk_uLn, b01_1, b01_0, b01_1s, b01_0s, or_b, mm44, mm45, mu45, ai_cp, hG, h1, h2, tc0, tc3, nI0p1]
    refine hQ _ (fun j x y => ?_) ?_
    · simp [va_up, x, y]
    · unfold tlS
      rw [if_pos rfl, if_pos c]
      refine ⟨by simp [va_up, upd], by simp [va_up, upd, h2], fun q => absurd q Nat.one_ne_zero, fun _ => ⟨hn, by simp [va_up, upd], by simp [va_up, upd, h2], fun i hi => ?_⟩⟩
      have hi : i < n := hi
      have := h44 i hi
      refine ⟨?_, this.2⟩
      rw [va_up_self, cpy3 (by omega)]
      exact this.1
  · have n0 : ¬ nI S.1 = nI 0 := by rw [nI_eq (by omega) (by omega)]; exact c
    simp (disch := omega) [w125_0, x125_1_42, w125_4, w125_7, x125_8_42, w125_11, w125_12, x125_13_42, w125_16, w125_17, w125_18, w125_21, w125_22, x125_23, w125_26, w125_27, x125_28_42, x125_31, w125_34, w125_35, x125_36_42, w125_39, w125_40, x125_41, w125_44, rt125, ow125, pl9_77, rt125, aw_st, ai_cls, ai_len, ai_p, ai_sw, ai_m, ai_c, ai_at, ai_isI, ai_isJ, ai_isA, ai_ld, ai_1i, ai_2i, ai_2l, ai_cn, ai_j, ai_set, ai_set2, ai_nl, ai_rs, ai_sm, Value.category, hk0, hk1, lits, litb, litm, litm2, List.getElem?_cons_zero, List.getElem?_cons_succ, or_n0, bit_r, fi0, fi1, fi2, fi3, nI_toInt, nI_add, pk_mul, nI_leI, nI_ltI, nI_eq, ib_nI, nI_clamp, va_up_self, va_up_ne, va_up_up, va_up_comm, pk_us, pk_un, upd_up, updL_up, pk_uLs, pk_uLn, b01_1, b01_0, b01_1s, b01_0s, or_b, h1, n0, c]
    refine hQ _ (fun j x y => ?_) ?_
    · simp [va_up, x]
    · unfold tlS
      rw [if_pos rfl, if_neg c]
      obtain ⟨k0, k1, k2, k3⟩ := h4 c
      refine ⟨by simp [va_up, upd], by simp [va_up, upd, h2], fun q => absurd q (by omega), fun _ => ⟨k0, by simp [va_up, upd, k1], by simp [va_up, upd, k2], fun i hi => ?_⟩⟩
      rw [va_up_ne _ _ (by omega)]
      exact k3 i hi
set_option maxHeartbeats 8000000 in
theorem tor_loop (hP6 : P ≤ 6) (hp : X 42 5 = nI P) : ∀ (r i : Nat) (h w : Int32), i + r = P → (h = mi1 ∨ ∃ H, H < 6 ∧ h = nI H) → (w = mi1 ∨ ∃ W, W < 6 ∧ w = nI W) → aw ET G d 127 6 [some (.ref 42), some (.int h), some (.int w), some (.int (nI i))] [] 231 sl (mem X Y) Q = Q [.int (torF (X 43) P (torS (X 43) r i h w))] 231 sl (mem X Y) := by
  intro r
  induction r with
  | zero =>
    intro i h w hi hh hw
    have : i = P := by omega
    subst this
    rw [w127_6]
    unfold torS torF
    dsimp only
    rcases hh with rfl | ⟨H, hH, rfl⟩
    · simp (disch := omega) [w127_7, x127_8_42, w127_11, w127_59, w127_60, w127_61, w127_64, w127_65, w127_66, w127_69, w127_70, w127_71, x127_72_42, w127_75, w127_76, w127_77, w127_78, w127_79, w127_80, w127_83, x127_84_42, w127_87, w127_88, w127_89, w127_90, w127_91, w127_94, w127_95, w127_96, w127_97, x127_98_42, w127_101, w127_102, w127_103, w127_104, w127_105, w127_106, w127_107, w127_108, w127_109, w127_110, rt127, rt127, aw_st, ai_cls, ai_len, ai_p, ai_sw, ai_m, ai_c, ai_at, ai_isI, ai_isJ, ai_isA, ai_ld, ai_1i, ai_2i, ai_2l, ai_cn, ai_j, ai_set, ai_set2, ai_nl, ai_rs, ai_sm, Value.category, hk0, hk1, lits, litb, litm, litm2, List.getElem?_cons_zero, List.getElem?_cons_succ, or_n0, bit_r, fi0, fi1, fi2, fi3, nI_toInt, nI_add, pk_mul, nI_leI, nI_ltI, nI_eq, ib_nI, nI_clamp, va_up_self, va_up_ne, va_up_up, va_up_comm, pk_us, pk_un, upd_up, updL_up, pk_uLs, pk_uLn, b01_1, b01_0, b01_1s, b01_0s, or_b, hp]
    · rcases hw with rfl | ⟨W, hW, rfl⟩
      · simp (disch := omega) [w127_7, x127_8_42, w127_11, w127_59, w127_60, w127_61, w127_64, w127_65, w127_66, w127_69, w127_70, w127_71, x127_72_42, w127_75, w127_76, w127_77, w127_78, w127_79, w127_80, w127_83, x127_84_42, w127_87, w127_88, w127_89, w127_90, w127_91, w127_94, w127_95, w127_96, w127_97, x127_98_42, w127_101, w127_102, w127_103, w127_104, w127_105, w127_106, w127_107, w127_108, w127_109, w127_110, rt127, rt127, aw_st, ai_cls, ai_len, ai_p, ai_sw, ai_m, ai_c, ai_at, ai_isI, ai_isJ, ai_isA, ai_ld, ai_1i, ai_2i, ai_2l, ai_cn, ai_j, ai_set, ai_set2, ai_nl, ai_rs, ai_sm, Value.category, hk0, hk1, lits, litb, litm, litm2, List.getElem?_cons_zero, List.getElem?_cons_succ, or_n0, bit_r, fi0, fi1, fi2, fi3, nI_toInt, nI_add, pk_mul, nI_leI, nI_ltI, nI_eq, ib_nI, nI_clamp, va_up_self, va_up_ne, va_up_up, va_up_comm, pk_us, pk_un, upd_up, updL_up, pk_uLs, pk_uLn, b01_1, b01_0, b01_1s, b01_0s, or_b, hp, nI_mi1]
      · rw [iN_nI (by omega), iN_nI (by omega)]
        by_cases q1 : X 43 H ≤ nI 3
        · have q1' : ¬ nI 3 < X 43 H := Int32.not_lt.mpr q1
          by_cases q2 : X 43 W = -X 43 H
          · simp (disch := omega) [w127_7, x127_8_42, w127_11, w127_59, w127_60, w127_61, w127_64, w127_65, w127_66, w127_69, w127_70, w127_71, x127_72_42, w127_75, w127_76, w127_77, w127_78, w127_79, w127_80, w127_83, x127_84_42, w127_87, w127_88, w127_89, w127_90, w127_91, w127_94, w127_95, w127_96, w127_97, x127_98_42, w127_101, w127_102, w127_103, w127_104, w127_105, w127_106, w127_107, w127_108, w127_109, w127_110, rt127, rt127, aw_st, ai_cls, ai_len, ai_p, ai_sw, ai_m, ai_c, ai_at, ai_isI, ai_isJ, ai_isA, ai_ld, ai_1i, ai_2i, ai_2l, ai_cn, ai_j, ai_set, ai_set2, ai_nl, ai_rs, ai_sm, Value.category, hk0, hk1, lits, litb, litm, litm2, List.getElem?_cons_zero, List.getElem?_cons_succ, or_n0, bit_r, fi0, fi1, fi2, fi3, nI_toInt, nI_add, pk_mul, nI_leI, nI_ltI, nI_eq, ib_nI, nI_clamp, va_up_self, va_up_ne, va_up_up, va_up_comm, pk_us, pk_un, upd_up, updL_up, pk_uLs, pk_uLn, b01_1, b01_0, b01_1s, b01_0s, or_b, hp, nI_mi1, mm43, q1, q1', q2]
          · simp (disch := omega) [w127_7, x127_8_42, w127_11, w127_59, w127_60, w127_61, w127_64, w127_65, w127_66, w127_69, w127_70, w127_71, x127_72_42, w127_75, w127_76, w127_77, w127_78, w127_79, w127_80, w127_83, x127_84_42, w127_87, w127_88, w127_89, w127_90, w127_91, w127_94, w127_95, w127_96, w127_97, x127_98_42, w127_101, w127_102, w127_103, w127_104, w127_105, w127_106, w127_107, w127_108, w127_109, w127_110, rt127, rt127, aw_st, ai_cls, ai_len, ai_p, ai_sw, ai_m, ai_c, ai_at, ai_isI, ai_isJ, ai_isA, ai_ld, ai_1i, ai_2i, ai_2l, ai_cn, ai_j, ai_set, ai_set2, ai_nl, ai_rs, ai_sm, Value.category, hk0, hk1, lits, litb, litm, litm2, List.getElem?_cons_zero, List.getElem?_cons_succ, or_n0, bit_r, fi0, fi1, fi2, fi3, nI_toInt, nI_add, pk_mul, nI_leI, nI_ltI, nI_eq, ib_nI, nI_clamp, va_up_self, va_up_ne, va_up_up, va_up_comm, pk_us, pk_un, upd_up, updL_up, pk_uLs, pk_uLn, b01_1, b01_0, b01_1s, b01_0s, or_b, hp, nI_mi1, mm43, q1, q1', q2]
        · simp (disch := omega) [w127_7, x127_8_42, w127_11, w127_59, w127_60, w127_61, w127_64, w127_65, w127_66, w127_69, w127_70, w127_71, x127_72_42, w127_75, w127_76, w127_77, w127_78, w127_79, w127_80, w127_83, x127_84_42, w127_87, w127_88, w127_89, w127_90, w127_91, w127_94, w127_95, w127_96, w127_97, x127_98_42, w127_101, w127_102, w127_103, w127_104, w127_105, w127_106, w127_107, w127_108, w127_109, w127_110, rt127, rt127, aw_st, ai_cls, ai_len, ai_p, ai_sw, ai_m, ai_c, ai_at, ai_isI, ai_isJ, ai_isA, ai_ld, ai_1i, ai_2i, ai_2l, ai_cn, ai_j, ai_set, ai_set2, ai_nl, ai_rs, ai_sm, Value.category, hk0, hk1, lits, litb, litm, litm2, List.getElem?_cons_zero, List.getElem?_cons_succ, or_n0, bit_r, fi0, fi1, fi2, fi3, nI_toInt, nI_add, pk_mul, nI_leI, nI_ltI, nI_eq, ib_nI, nI_clamp, va_up_self, va_up_ne, va_up_up, va_up_comm, pk_us, pk_un, upd_up, updL_up, pk_uLs, pk_uLn, b01_1, b01_0, b01_1s, b01_0s, or_b, hp, nI_mi1, mm43, q1]
  | succ r ih =>
    intro i h w hi hh hw
    rw [w127_6]
    unfold torS
    rcases lt_or (nI 0) (X 43 i) with ⟨a1, a2⟩ | ⟨a1, a2⟩
    · rw [if_pos a1]
      by_cases e : h = mi1
      · subst e
        rw [if_pos rfl]
        have := ih (i + 1) (nI i) w (by omega) (Or.inr ⟨i, by omega, rfl⟩) hw
        simp (disch := omega) [w127_7, x127_8_42, w127_11, w127_14, x127_15_42, w127_18, w127_19, w127_20, w127_23, w127_24, w127_25, w127_28, w127_29, w127_30, w127_31, w127_32, w127_35, x127_36_42, w127_39, w127_40, w127_41, w127_44, w127_45, w127_46, w127_49, w127_50, w127_51, w127_52, w127_53, w127_56, rt127, rt127, aw_st, ai_cls, ai_len, ai_p, ai_sw, ai_m, ai_c, ai_at, ai_isI, ai_isJ, ai_isA, ai_ld, ai_1i, ai_2i, ai_2l, ai_cn, ai_j, ai_set, ai_set2, ai_nl, ai_rs, ai_sm, Value.category, hk0, hk1, lits, litb, litm, litm2, List.getElem?_cons_zero, List.getElem?_cons_succ, or_n0, bit_r, fi0, fi1, fi2, fi3, nI_toInt, nI_add, pk_mul, nI_leI, nI_ltI, nI_eq, ib_nI, nI_clamp, va_up_self, va_up_ne, va_up_up, va_up_comm, pk_us, pk_un, upd_up, updL_up, pk_uLs, pk_uLn, b01_1, b01_0, b01_1s, b01_0s, or_b, hp, mm43, a2, show ¬ P ≤ i by omega]
        exact iff_of_eq this
      · rw [if_neg e]
        simp (disch := omega) [w127_7, x127_8_42, w127_11, w127_14, x127_15_42, w127_18, w127_19, w127_20, w127_23, w127_24, w127_25, w127_28, w127_29, w127_30, w127_31, w127_32, w127_35, x127_36_42, w127_39, w127_40, w127_41, w127_44, w127_45, w127_46, w127_49, w127_50, w127_51, w127_52, w127_53, w127_56, rt127, rt127, aw_st, ai_cls, ai_len, ai_p, ai_sw, ai_m, ai_c, ai_at, ai_isI, ai_isJ, ai_isA, ai_ld, ai_1i, ai_2i, ai_2l, ai_cn, ai_j, ai_set, ai_set2, ai_nl, ai_rs, ai_sm, Value.category, hk0, hk1, lits, litb, litm, litm2, List.getElem?_cons_zero, List.getElem?_cons_succ, or_n0, bit_r, fi0, fi1, fi2, fi3, nI_toInt, nI_add, pk_mul, nI_leI, nI_ltI, nI_eq, ib_nI, nI_clamp, va_up_self, va_up_ne, va_up_up, va_up_comm, pk_us, pk_un, upd_up, updL_up, pk_uLs, pk_uLn, b01_1, b01_0, b01_1s, b01_0s, or_b, hp, mm43, a2, e, torF, show ¬ P ≤ i by omega]
    · rw [if_neg a1]
      rcases lt_or (X 43 i) (nI 0) with ⟨b1, b2⟩ | ⟨b1, b2⟩
      · rw [if_pos b1]
        by_cases e : w = mi1
        · subst e
          rw [if_pos rfl]
          have := ih (i + 1) h (nI i) (by omega) hh (Or.inr ⟨i, by omega, rfl⟩)
          simp (disch := omega) [w127_7, x127_8_42, w127_11, w127_14, x127_15_42, w127_18, w127_19, w127_20, w127_23, w127_24, w127_25, w127_28, w127_29, w127_30, w127_31, w127_32, w127_35, x127_36_42, w127_39, w127_40, w127_41, w127_44, w127_45, w127_46, w127_49, w127_50, w127_51, w127_52, w127_53, w127_56, rt127, rt127, aw_st, ai_cls, ai_len, ai_p, ai_sw, ai_m, ai_c, ai_at, ai_isI, ai_isJ, ai_isA, ai_ld, ai_1i, ai_2i, ai_2l, ai_cn, ai_j, ai_set, ai_set2, ai_nl, ai_rs, ai_sm, Value.category, hk0, hk1, lits, litb, litm, litm2, List.getElem?_cons_zero, List.getElem?_cons_succ, or_n0, bit_r, fi0, fi1, fi2, fi3, nI_toInt, nI_add, pk_mul, nI_leI, nI_ltI, nI_eq, ib_nI, nI_clamp, va_up_self, va_up_ne, va_up_up, va_up_comm, pk_us, pk_un, upd_up, updL_up, pk_uLs, pk_uLn, b01_1, b01_0, b01_1s, b01_0s, or_b, hp, mm43, a2, b2, show ¬ P ≤ i by omega]
          exact iff_of_eq this
        · rw [if_neg e]
          simp (disch := omega) [w127_7, x127_8_42, w127_11, w127_14, x127_15_42, w127_18, w127_19, w127_20, w127_23, w127_24, w127_25, w127_28, w127_29, w127_30, w127_31, w127_32, w127_35, x127_36_42, w127_39, w127_40, w127_41, w127_44, w127_45, w127_46, w127_49, w127_50, w127_51, w127_52, w127_53, w127_56, rt127, rt127, aw_st, ai_cls, ai_len, ai_p, ai_sw, ai_m, ai_c, ai_at, ai_isI, ai_isJ, ai_isA, ai_ld, ai_1i, ai_2i, ai_2l, ai_cn, ai_j, ai_set, ai_set2, ai_nl, ai_rs, ai_sm, Value.category, hk0, hk1, lits, litb, litm, litm2, List.getElem?_cons_zero, List.getElem?_cons_succ, or_n0, bit_r, fi0, fi1, fi2, fi3, nI_toInt, nI_add, pk_mul, nI_leI, nI_ltI, nI_eq, ib_nI, nI_clamp, va_up_self, va_up_ne, va_up_up, va_up_comm, pk_us, pk_un, upd_up, updL_up, pk_uLs, pk_uLn, b01_1, b01_0, b01_1s, b01_0s, or_b, hp, mm43, a2, b2, e, torF, show ¬ P ≤ i by omega]
      · rw [if_neg b1]
        have := ih (i + 1) h w (by omega) hh hw
        simp (disch := omega) [w127_7, x127_8_42, w127_11, w127_14, x127_15_42, w127_18, w127_19, w127_20, w127_23, w127_24, w127_25, w127_28, w127_29, w127_30, w127_31, w127_32, w127_35, x127_36_42, w127_39, w127_40, w127_41, w127_44, w127_45, w127_46, w127_49, w127_50, w127_51, w127_52, w127_53, w127_56, rt127, rt127, aw_st, ai_cls, ai_len, ai_p, ai_sw, ai_m, ai_c, ai_at, ai_isI, ai_isJ, ai_isA, ai_ld, ai_1i, ai_2i, ai_2l, ai_cn, ai_j, ai_set, ai_set2, ai_nl, ai_rs, ai_sm, Value.category, hk0, hk1, lits, litb, litm, litm2, List.getElem?_cons_zero, List.getElem?_cons_succ, or_n0, bit_r, fi0, fi1, fi2, fi3, nI_toInt, nI_add, pk_mul, nI_leI, nI_ltI, nI_eq, ib_nI, nI_clamp, va_up_self, va_up_ne, va_up_up, va_up_comm, pk_us, pk_un, upd_up, updL_up, pk_uLs, pk_uLn, b01_1, b01_0, b01_1s, b01_0s, or_b, hp, mm43, a2, b2, show ¬ P ≤ i by omega]
        exact iff_of_eq this
theorem tor_eq (hP6 : P ≤ 6) (hp : X 42 5 = nI P) : aw ET G d 127 0 [some (.ref 42), none, none, none] [] 231 sl (mem X Y) Q = Q [.int (torR (X 43) P)] 231 sl (mem X Y) := by
  have := tor_loop (G := G) (d := d) (sl := sl) (Q := Q) (Y := Y) hP6 hp P 0 mi1 mi1 (by omega) (Or.inl rfl) (Or.inl rfl)
  simp (disch := omega) [w127_0, w127_1, w127_2, w127_3, w127_4, w127_5, rt127, aw_st, ai_cls, ai_len, ai_p, ai_sw, ai_m, ai_c, ai_at, ai_isI, ai_isJ, ai_isA, ai_ld, ai_1i, ai_2i, ai_2l, ai_cn, ai_j, ai_set, ai_set2, ai_nl, ai_rs, ai_sm, Value.category, hk0, hk1, lits, litb, litm, litm2, List.getElem?_cons_zero, List.getElem?_cons_succ, or_n0, bit_r, fi0, fi1, fi2, fi3, nI_toInt, nI_add, pk_mul, nI_leI, nI_ltI, nI_eq, pk_sub, ib_nI, nI_clamp, va_up_self, va_up_ne, va_up_up, va_up_comm, pk_us, pk_un, upd_up, updL_up, pk_uLs, pk_uLn, b01_1, b01_0, b01_1s, b01_0s, or_b]
  rw [this]
  rfl
end TTP
