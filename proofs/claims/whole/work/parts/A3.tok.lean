/-! TOKENS: the class's Reader, III -/
section TKE
variable {G : ai_G} {d sl : Nat} {Q : List Value → Nat → Nat → ai_M → Prop} {Y : mY} {X : mX} {t : Nat → Nat} {n lim i p : Nat} {f : Nat → Int32} {g : Nat → Int64} {flt : Int32}
def RDc (t : Nat → Nat) (n lim i : Nat) (f : Nat → Int32) (g : Nat → Int64) (flt : Int32) : Prop := f 0 = nI 1 ∧ f 1 = nI n ∧ f 2 = nI lim ∧ f 3 = nI (tA t n lim i) ∧ f 4 = nI (tK t n lim i) ∧ f 5 = nI (tP t n lim i) ∧ f 8 = yI (tY t n lim i) ∧ f 9 = flt ∧ (tK t n lim i = 2 → g 7 = lN (v5 (tW t n i))) ∧ (tK t n lim i = 3 → f 6 = nI (tN t n i))
theorem isAD_or {c : Nat} : isAD c = (isAl c || isDg c) := rfl
set_option maxHeartbeats 8000000 in
theorem step_wp (h0 : f 0 = nI 1) (h1 : f 1 = nI n) (h2 : f 2 = nI lim) (h3 : f 3 = nI i) (h9 : f 9 = flt) (hT : TB8 (X 1) t) (hn : n ≤ 940) (hl : lim ≤ 940) (hi : i ≤ n) (hQ : ∀ f' g', RDc t n lim i f' g' flt → Q [] 231 sl (mem (va_up X 2 f') (va_up Y 2 g'))) : aw ET G (d + 2) 18 0 [some (.ref 2), none] [] 231 sl (mem (va_up X 2 f) (va_up Y 2 g)) Q := by
  have hp := skp_le (t := t) hi
  have hT2 : ∀ f : Nat → Int32, TB8 (va_up X 2 f 1) t := fun f => by simpa [va_up] using hT
  have hb : ∀ (Q : List Value → Nat → Nat → ai_M → Prop), aw ET G (d + 1) 19 0 [some (.ref 2), some (.int (nI i)), none] [] 231 sl (mem (va_up X 2 f) (va_up Y 2 g)) Q = Q [.int (nI (skp t n i))] 231 sl (mem (va_up X 2 f) (va_up Y 2 g)) := fun Q => blanks_eq (X := va_up X 2 f) (Y := va_up Y 2 g) (by rw [va_up_self]; exact h0) (by rw [va_up_self]; exact h1) (hT2 f) hn hi
  by_cases c : n ≤ skp t n i ∨ lim ≤ skp t n i
  · have hK : tK t n lim i = if lim < n then 1 else 0 := by unfold tK; rw [if_pos c]
    have hA : tA t n lim i = min n lim := by unfold tA; rw [if_pos c]
    have hP : tP t n lim i = min n lim := by unfold tP; rw [if_pos c]
    have hY : tY t n lim i = 21 := by
      unfold tY
      rw [hK]
      by_cases e : lim < n <;> simp [e]
    have := hQ (upd (upd (upd (upd (upd f 5 (nI (skp t n i))) 8 mi1) 4 (nI (if lim < n then 1 else 0))) 5 (nI (min n lim))) 3 (nI (min n lim))) g (by
      refine ⟨by simp [upd, h0], by simp [upd, h1], by simp [upd, h2], by simp [upd, hA], by simp [upd, hK], by simp [upd, hP], ?_, by simp [upd, h9], ?_, ?_⟩
      · rw [hY]; simp [upd, yI]
      · rw [hK]; intro e; split at e <;> omega
      · rw [hK]; intro e; split at e <;> omega)
    have he : ∀ (Q : List Value → Nat → Nat → ai_M → Prop), aw ET G (d + 1) 20 0 [some (.ref 2)] [] 231 sl (mem (va_up X 2 (upd (upd f 5 (nI (skp t n i))) 8 mi1)) (va_up Y 2 g)) Q = Q [] 231 sl (mem (va_up X 2 (upd (upd (upd (upd (upd f 5 (nI (skp t n i))) 8 mi1) 4 (nI (if lim < n then 1 else 0))) 5 (nI (min n lim))) 3 (nI (min n lim)))) (va_up Y 2 g)) := fun Q => by
      have := stepToEnd_eq (G := G) (d := d) (sl := sl) (Q := Q) (X := va_up X 2 (upd (upd f 5 (nI (skp t n i))) 8 mi1)) (Y := va_up Y 2 g) (n := n) (lim := lim) (by simp [va_up, upd, h1]) (by simp [va_up, upd, h2]) hn hl
      rw [this]
      simp only [va_up_self, va_up_up]
    by_cases c1 : n ≤ skp t n i
    · simp (disch := omega) [w18_0, w18_1, w18_2, x18_3_2, x18_6_2, x18_9, w18_12, w18_13, x18_14, w18_17, x18_18_2, w18_21, x18_22_2, w18_25, w18_28, x18_29_2, w18_32, x18_33_2, w18_36, w18_39, x18_40_2, w18_43, w18_44, x18_45_2, w18_48, x18_49_2, w18_52, w18_53, w18_56, w18_57, w18_58, x18_59, w18_62, w18_65, x18_66, w18_69, w18_72, x18_73_2, w18_76, w18_77, x18_78_2, w18_81, w18_82, w18_85, w18_86, x18_87_2, w18_90, x18_91_2, x18_94_2, w18_97, w18_100, x18_101, w18_104, w18_105, w18_106, x18_107_2, w18_110, w18_111, x18_112, w18_115, w18_116, x18_117, w18_120, w18_123, w18_124, w18_127, x18_128, w18_131, rt18, aw_st, ai_cls, ai_len, ai_p, ai_sw, ai_m, ai_c, ai_at, ai_isI, ai_isJ, ai_isA, ai_ld, ai_1i, ai_2i, ai_2l, ai_cn, ai_j, ai_set, ai_set2, ai_nl, ai_rs, ai_sm, Value.category, hk0, hk1, lits, litb, litm, litm2, List.getElem?_cons_zero, List.getElem?_cons_succ, or_n0, bit_r, fi0, fi1, fi2, fi3, nI_toInt, nI_add, pk_mul, nI_leI, nI_ltI, nI_eq, pk_sub, ib_nI, nI_clamp, va_up_self, va_up_ne, va_up_up, va_up_comm, pk_us, pk_un, upd_up, updL_up, pk_uLs, pk_uLn, b01_1, b01_0, b01_1s, b01_0s, or_b, h1, h2, h3, hb, c1, he]
      exact this
    · simp (disch := omega) [w18_0, w18_1, w18_2, x18_3_2, x18_6_2, x18_9, w18_12, w18_13, x18_14, w18_17, x18_18_2, w18_21, x18_22_2, w18_25, w18_28, x18_29_2, w18_32, x18_33_2, w18_36, w18_39, x18_40_2, w18_43, w18_44, x18_45_2, w18_48, x18_49_2, w18_52, w18_53, w18_56, w18_57, w18_58, x18_59, w18_62, w18_65, x18_66, w18_69, w18_72, x18_73_2, w18_76, w18_77, x18_78_2, w18_81, w18_82, w18_85, w18_86, x18_87_2, w18_90, x18_91_2, x18_94_2, w18_97, w18_100, x18_101, w18_104, w18_105, w18_106, x18_107_2, w18_110, w18_111, x18_112, w18_115, w18_116, x18_117, w18_120, w18_123, w18_124, w18_127, x18_128, w18_131, rt18, aw_st, ai_cls, ai_len, ai_p, ai_sw, ai_m, ai_c, ai_at, ai_isI, ai_isJ, ai_isA, ai_ld, ai_1i, ai_2i, ai_2l, ai_cn, ai_j, ai_set, ai_set2, ai_nl, ai_rs, ai_sm, Value.category, hk0, hk1, lits, litb, litm, litm2, List.getElem?_cons_zero, List.getElem?_cons_succ, or_n0, bit_r, fi0, fi1, fi2, fi3, nI_toInt, nI_add, pk_mul, nI_leI, nI_ltI, nI_eq, pk_sub, ib_nI, nI_clamp, va_up_self, va_up_ne, va_up_up, va_up_comm, pk_us, pk_un, upd_up, updL_up, pk_uLs, pk_uLn, b01_1, b01_0, b01_1s, b01_0s, or_b, h1, h2, h3, hb, c1, show ¬ skp t n i < lim by omega, he]
      simpa (disch := omega) using this
  · obtain ⟨c1, c2⟩ := not_or.mp c
    obtain ⟨ht, hx⟩ := hT (skp t n i) (by omega)
    have hP : tP t n lim i = skp t n i := by unfold tP; rw [if_neg c]
    by_cases ad : isAD (t (skp t n i)) = true
    · have hK : tK t n lim i = rK (cAl t (skp t n i) (tE t n i)) (cDg t (skp t n i) (tE t n i)) := by unfold tK; rw [if_neg c, if_pos ad]
      have hA : tA t n lim i = skp t n i + tE t n i := by unfold tA; rw [if_neg c, if_pos ad]
      have hle := rnR_le t (n - skp t n i) (skp t n i)
      have hrun : ∀ (Q : List Value → Nat → Nat → ai_M → Prop), (∀ f' g', RN t (skp t n i) (tE t n i) (upd (upd f 5 (nI (skp t n i))) 8 mi1) f' g g' → Q [] 231 sl (mem (va_up X 2 f') (va_up Y 2 g'))) → aw ET G (d + 1) 23 0 [some (.ref 2), none, none, none, none, none, none, none] [] 231 sl (mem (va_up X 2 (upd (upd f 5 (nI (skp t n i))) 8 mi1)) (va_up Y 2 g)) Q := fun Q h => run_wp (by simp [upd, h0]) (by simp [upd, h1]) (by simp [upd]) hT hn (by omega) h
      have hafter : ∀ f' g', RN t (skp t n i) (tE t n i) (upd (upd f 5 (nI (skp t n i))) 8 mi1) f' g g' → aw ET G (d + 2) 18 76 [some (.ref 2), some (.int (nI (t (skp t n i))))] [] 231 sl (mem (va_up X 2 f') (va_up Y 2 g')) Q := by
        intro f' g' ⟨r3, r4, rf, r7, r6, rg⟩
        have q0 : f' 0 = nI 1 := by rw [rf 0 (by omega) (by omega) (by omega)]; simp [upd, h0]
        have q1 : f' 1 = nI n := by rw [rf 1 (by omega) (by omega) (by omega)]; simp [upd, h1]
        have q2 : f' 2 = nI lim := by rw [rf 2 (by omega) (by omega) (by omega)]; simp [upd, h2]
        have q5 : f' 5 = nI (skp t n i) := by rw [rf 5 (by omega) (by omega) (by omega)]; simp [upd]
        have q9 : f' 9 = flt := by rw [rf 9 (by omega) (by omega) (by omega)]; simp [upd, h9]
        by_cases k2 : tK t n lim i = 2
        · have hY : tY t n lim i = kN (fw t (skp t n i) (tE t n i)) := by unfold tY; rw [if_pos k2]; rfl
          have := hQ (upd f' 8 (yI (tY t n lim i))) g' ⟨by simp [upd, q0], by simp [upd, q1], by simp [upd, q2], by simp [upd, r3, hA], by simp [upd, r4, hK], by simp [upd, q5, hP], by simp [upd], by simp [upd, q9], fun _ => r7 (by rw [← hK]; exact k2), fun h => by omega⟩
          have hk : ∀ (Q : List Value → Nat → Nat → ai_M → Prop), aw ET G (d + 1) 24 0 [some (.ref 2), some (.int (nI (skp t n i))), some (.int (nI (skp t n i + tE t n i))), none, none, none, none, none] [] 231 sl (mem (va_up X 2 f') (va_up Y 2 g')) Q = Q [.int (yI (kN (fw t (skp t n i) (tE t n i))))] 231 sl (mem (va_up X 2 f') (va_up Y 2 g')) := fun Q => keyOf_eq (X := va_up X 2 f') (Y := va_up Y 2 g') (by rw [va_up_self]; exact q0) (by rw [va_up_self]; exact q1) (hT2 f') hn (by unfold tE; omega)
          rw [hY] at this
          rw [← hK, k2] at r4
          simp (disch := omega) [w18_0, w18_1, w18_2, x18_3_2, x18_6_2, x18_9, w18_12, w18_13, x18_14, w18_17, x18_18_2, w18_21, x18_22_2, w18_25, w18_28, x18_29_2, w18_32, x18_33_2, w18_36, w18_39, x18_40_2, w18_43, w18_44, x18_45_2, w18_48, x18_49_2, w18_52, w18_53, w18_56, w18_57, w18_58, x18_59, w18_62, w18_65, x18_66, w18_69, w18_72, x18_73_2, w18_76, w18_77, x18_78_2, w18_81, w18_82, w18_85, w18_86, x18_87_2, w18_90, x18_91_2, x18_94_2, w18_97, w18_100, x18_101, w18_104, w18_105, w18_106, x18_107_2, w18_110, w18_111, x18_112, w18_115, w18_116, x18_117, w18_120, w18_123, w18_124, w18_127, x18_128, w18_131, rt18, aw_st, ai_cls, ai_len, ai_p, ai_sw, ai_m, ai_c, ai_at, ai_isI, ai_isJ, ai_isA, ai_ld, ai_1i, ai_2i, ai_2l, ai_cn, ai_j, ai_set, ai_set2, ai_nl, ai_rs, ai_sm, Value.category, hk0, hk1, lits, litb, litm, litm2, List.getElem?_cons_zero, List.getElem?_cons_succ, or_n0, bit_r, fi0, fi1, fi2, fi3, nI_toInt, nI_add, pk_mul, nI_leI, nI_ltI, nI_eq, pk_sub, ib_nI, nI_clamp, va_up_self, va_up_ne, va_up_up, va_up_comm, pk_us, pk_un, upd_up, updL_up, pk_uLs, pk_uLn, b01_1, b01_0, b01_1s, b01_0s, or_b, r3, r4, q5, hk]
          exact this
        · have hY : tY t n lim i = 21 := by unfold tY; rw [if_neg k2]
          have := hQ (upd f' 8 mi1) g' ⟨by simp [upd, q0], by simp [upd, q1], by simp [upd, q2], by simp [upd, r3, hA], by simp [upd, r4, hK], by simp [upd, q5, hP], by rw [hY]; simp [upd, yI], by simp [upd, q9], fun h => absurd h k2, fun h => by rw [pk_un (by omega)]; exact r6 (by rw [← hK]; exact h)⟩
          rw [← hK] at r4
          have hk4 : tK t n lim i < 4 := by
            rw [hK]; unfold rK; split
            · omega
            · split <;> omega
          simp (disch := omega) [w18_0, w18_1, w18_2, x18_3_2, x18_6_2, x18_9, w18_12, w18_13, x18_14, w18_17, x18_18_2, w18_21, x18_22_2, w18_25, w18_28, x18_29_2, w18_32, x18_33_2, w18_36, w18_39, x18_40_2, w18_43, w18_44, x18_45_2, w18_48, x18_49_2, w18_52, w18_53, w18_56, w18_57, w18_58, x18_59, w18_62, w18_65, x18_66, w18_69, w18_72, x18_73_2, w18_76, w18_77, x18_78_2, w18_81, w18_82, w18_85, w18_86, x18_87_2, w18_90, x18_91_2, x18_94_2, w18_97, w18_100, x18_101, w18_104, w18_105, w18_106, x18_107_2, w18_110, w18_111, x18_112, w18_115, w18_116, x18_117, w18_120, w18_123, w18_124, w18_127, x18_128, w18_131, rt18, aw_st, ai_cls, ai_len, ai_p, ai_sw, ai_m, ai_c, ai_at, ai_isI, ai_isJ, ai_isA, ai_ld, ai_1i, ai_2i, ai_2l, ai_cn, ai_j, ai_set, ai_set2, ai_nl, ai_rs, ai_sm, Value.category, hk0, hk1, lits, litb, litm, litm2, List.getElem?_cons_zero, List.getElem?_cons_succ, or_n0, bit_r, fi0, fi1, fi2, fi3, nI_toInt, nI_add, pk_mul, nI_leI, nI_ltI, nI_eq, pk_sub, ib_nI, nI_clamp, va_up_self, va_up_ne, va_up_up, va_up_comm, pk_us, pk_un, upd_up, updL_up, pk_uLs, pk_uLn, b01_1, b01_0, b01_1s, b01_0s, or_b, r3, r4, q5, k2]
          exact this
      rw [isAD_or] at ad
      by_cases al : isAl (t (skp t n i)) = true
      · simp (disch := omega) [w18_0, w18_1, w18_2, x18_3_2, x18_6_2, x18_9, w18_12, w18_13, x18_14, w18_17, x18_18_2, w18_21, x18_22_2, w18_25, w18_28, x18_29_2, w18_32, x18_33_2, w18_36, w18_39, x18_40_2, w18_43, w18_44, x18_45_2, w18_48, x18_49_2, w18_52, w18_53, w18_56, w18_57, w18_58, x18_59, w18_62, w18_65, x18_66, w18_69, w18_72, x18_73_2, w18_77, x18_78_2, w18_81, w18_82, w18_85, w18_86, x18_87_2, w18_90, x18_91_2, x18_94_2, w18_97, w18_100, x18_101, w18_104, w18_105, w18_106, x18_107_2, w18_110, w18_111, x18_112, w18_115, w18_116, x18_117, w18_120, w18_123, w18_124, w18_127, x18_128, w18_131, rt18, aw_st, ai_cls, ai_len, ai_p, ai_sw, ai_m, ai_c, ai_at, ai_isI, ai_isJ, ai_isA, ai_ld, ai_1i, ai_2i, ai_2l, ai_cn, ai_j, ai_set, ai_set2, ai_nl, ai_rs, ai_sm, Value.category, hk0, hk1, lits, litb, litm, litm2, List.getElem?_cons_zero, List.getElem?_cons_succ, or_n0, bit_r, fi0, fi1, fi2, fi3, nI_toInt, nI_add, pk_mul, nI_leI, nI_ltI, nI_eq, pk_sub, ib_nI, nI_clamp, va_up_self, va_up_ne, va_up_up, va_up_comm, pk_us, pk_un, upd_up, updL_up, pk_uLs, pk_uLn, b01_1, b01_0, b01_1s, b01_0s, or_b, h0, h1, h2, h3, hb, c1, c2, show skp t n i < lim by omega, mm1, hx, bI_and, letter_eq, al]
        exact hrun _ (fun f' g' h => hafter f' g' h)
      · have dg : isDg (t (skp t n i)) = true := by simpa [al] using ad
        simp (disch := omega) [w18_0, w18_1, w18_2, x18_3_2, x18_6_2, x18_9, w18_12, w18_13, x18_14, w18_17, x18_18_2, w18_21, x18_22_2, w18_25, w18_28, x18_29_2, w18_32, x18_33_2, w18_36, w18_39, x18_40_2, w18_43, w18_44, x18_45_2, w18_48, x18_49_2, w18_52, w18_53, w18_56, w18_57, w18_58, x18_59, w18_62, w18_65, x18_66, w18_69, w18_72, x18_73_2, w18_77, x18_78_2, w18_81, w18_82, w18_85, w18_86, x18_87_2, w18_90, x18_91_2, x18_94_2, w18_97, w18_100, x18_101, w18_104, w18_105, w18_106, x18_107_2, w18_110, w18_111, x18_112, w18_115, w18_116, x18_117, w18_120, w18_123, w18_124, w18_127, x18_128, w18_131, rt18, aw_st, ai_cls, ai_len, ai_p, ai_sw, ai_m, ai_c, ai_at, ai_isI, ai_isJ, ai_isA, ai_ld, ai_1i, ai_2i, ai_2l, ai_cn, ai_j, ai_set, ai_set2, ai_nl, ai_rs, ai_sm, Value.category, hk0, hk1, lits, litb, litm, litm2, List.getElem?_cons_zero, List.getElem?_cons_succ, or_n0, bit_r, fi0, fi1, fi2, fi3, nI_toInt, nI_add, pk_mul, nI_leI, nI_ltI, nI_eq, pk_sub, ib_nI, nI_clamp, va_up_self, va_up_ne, va_up_up, va_up_comm, pk_us, pk_un, upd_up, updL_up, pk_uLs, pk_uLn, b01_1, b01_0, b01_1s, b01_0s, or_b, h0, h1, h2, h3, hb, c1, c2, show skp t n i < lim by omega, mm1, hx, bI_and, letter_eq, digit_eq, al, dg]
        exact hrun _ (fun f' g' h => hafter f' g' h)
    · have hA : tA t n lim i = skp t n i + 1 := by unfold tA; rw [if_neg c, if_neg ad]
      have al : isAl (t (skp t n i)) = false := by rw [isAD_or] at ad; simp at ad; exact ad.1
      have dg : isDg (t (skp t n i)) = false := by rw [isAD_or] at ad; simp at ad; exact ad.2
      by_cases sg : isSg (t (skp t n i)) = true
      · have hK : tK t n lim i = t (skp t n i) := by unfold tK; rw [if_neg c, if_neg ad, if_pos sg]
        have hb4 : 4 ≤ t (skp t n i) := by
          unfold isSg at sg
          simp only [Bool.or_eq_true, decide_eq_true_eq] at sg
          omega
        have hY : tY t n lim i = 21 := by unfold tY; rw [if_neg (by omega)]
        have := hQ (upd (upd (upd (upd f 5 (nI (skp t n i))) 8 mi1) 3 (nI (skp t n i + 1))) 4 (nI (t (skp t n i)))) g ⟨by simp [upd, h0], by simp [upd, h1], by simp [upd, h2], by simp [upd, hA], by simp [upd, hK], by simp [upd, hP], by rw [hY]; simp [upd, yI], by simp [upd, h9], fun h => by omega, fun h => by omega⟩
        simp (disch := omega) [w18_0, w18_1, w18_2, x18_3_2, x18_6_2, x18_9, w18_12, w18_13, x18_14, w18_17, x18_18_2, w18_21, x18_22_2, w18_25, w18_28, x18_29_2, w18_32, x18_33_2, w18_36, w18_39, x18_40_2, w18_43, w18_44, x18_45_2, w18_48, x18_49_2, w18_52, w18_53, w18_56, w18_57, w18_58, x18_59, w18_62, w18_65, x18_66, w18_69, w18_72, x18_73_2, w18_76, w18_77, x18_78_2, w18_81, w18_82, w18_85, w18_86, x18_87_2, w18_90, x18_91_2, x18_94_2, w18_97, w18_100, x18_101, w18_104, w18_105, w18_106, x18_107_2, w18_110, w18_111, x18_112, w18_115, w18_116, x18_117, w18_120, w18_123, w18_124, w18_127, x18_128, w18_131, rt18, aw_st, ai_cls, ai_len, ai_p, ai_sw, ai_m, ai_c, ai_at, ai_isI, ai_isJ, ai_isA, ai_ld, ai_1i, ai_2i, ai_2l, ai_cn, ai_j, ai_set, ai_set2, ai_nl, ai_rs, ai_sm, Value.category, hk0, hk1, lits, litb, litm, litm2, List.getElem?_cons_zero, List.getElem?_cons_succ, or_n0, bit_r, fi0, fi1, fi2, fi3, nI_toInt, nI_add, pk_mul, nI_leI, nI_ltI, nI_eq, pk_sub, ib_nI, nI_clamp, va_up_self, va_up_ne, va_up_up, va_up_comm, pk_us, pk_un, upd_up, updL_up, pk_uLs, pk_uLn, b01_1, b01_0, b01_1s, b01_0s, or_b, h0, h1, h2, h3, hb, c1, c2, show skp t n i < lim by omega, mm1, hx, bI_and, letter_eq, digit_eq, sign_eq, al, dg, sg]
        exact this
      · have hK : tK t n lim i = 1 := by unfold tK; rw [if_neg c, if_neg ad, if_neg sg]
        have hY : tY t n lim i = 21 := by unfold tY; rw [if_neg (by omega)]
        have := hQ (upd (upd (upd (upd f 5 (nI (skp t n i))) 8 mi1) 3 (nI (skp t n i + 1))) 4 (nI 1)) g ⟨by simp [upd, h0], by simp [upd, h1], by simp [upd, h2], by simp [upd, hA], by simp [upd, hK], by simp [upd, hP], by rw [hY]; simp [upd, yI], by simp [upd, h9], fun h => by omega, fun h => by omega⟩
        simp (disch := omega) [w18_0, w18_1, w18_2, x18_3_2, x18_6_2, x18_9, w18_12, w18_13, x18_14, w18_17, x18_18_2, w18_21, x18_22_2, w18_25, w18_28, x18_29_2, w18_32, x18_33_2, w18_36, w18_39, x18_40_2, w18_43, w18_44, x18_45_2, w18_48, x18_49_2, w18_52, w18_53, w18_56, w18_57, w18_58, x18_59, w18_62, w18_65, x18_66, w18_69, w18_72, x18_73_2, w18_76, w18_77, x18_78_2, w18_81, w18_82, w18_85, w18_86, x18_87_2, w18_90, x18_91_2, x18_94_2, w18_97, w18_100, x18_101, w18_104, w18_105, w18_106, x18_107_2, w18_110, w18_111, x18_112, w18_115, w18_116, x18_117, w18_120, w18_123, w18_124, w18_127, x18_128, w18_131, rt18, aw_st, ai_cls, ai_len, ai_p, ai_sw, ai_m, ai_c, ai_at, ai_isI, ai_isJ, ai_isA, ai_ld, ai_1i, ai_2i, ai_2l, ai_cn, ai_j, ai_set, ai_set2, ai_nl, ai_rs, ai_sm, Value.category, hk0, hk1, lits, litb, litm, litm2, List.getElem?_cons_zero, List.getElem?_cons_succ, or_n0, bit_r, fi0, fi1, fi2, fi3, nI_toInt, nI_add, pk_mul, nI_leI, nI_ltI, nI_eq, pk_sub, ib_nI, nI_clamp, va_up_self, va_up_ne, va_up_up, va_up_comm, pk_us, pk_un, upd_up, updL_up, pk_uLs, pk_uLn, b01_1, b01_0, b01_1s, b01_0s, or_b, h0, h1, h2, h3, hb, c1, c2, show skp t n i < lim by omega, mm1, hx, bI_and, letter_eq, digit_eq, sign_eq, al, dg, sg]
        exact this
end TKE
