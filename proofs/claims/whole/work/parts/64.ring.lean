/-! RINGS: the class seeks them so -/
section RNC
variable {G : ai_G} {d n sl : Nat} {Q : List Value → Nat → Nat → ai_M → Prop} {P S : Nat} {X : mX} {Y : mY}
theorem bit_val {w : Int32} {q : Nat} (hq : q < 32) : bit w (nI q) = b01 (bt w q = true) := by
  have hb : ∀ i, i < 32 → bt (bit w (nI q)) i = (decide (i = 0) && bt w q) := by
    intro i hi
    unfold bit
    rw [b_and, b_1, b_sshr q hq w hi]
    by_cases e : i = 0
    · subst e; simp [hq]
    · simp [e]
  apply b_ext
  intro i hi
  rw [hb i hi]
  unfold b01
  cases bt w q
  · simp [b_0]
  · simp [b_1]
theorem bt_one {p q : Nat} (hp : p < 32) (hq : q < 32) : bt (1 <<< (nI p &&& 31)) q = decide (q = p) := by
  have := bt_or1 (w := 0) hp hq
  rw [b_or, b_0, Bool.false_or] at this
  rw [this, Bool.or_false]
abbrev srG (f : Nat → Int32) (P fr r : Nat) (w : List Nat) : Nat → Option (List Nat) := fun q => if q ∉ w ∧ 0 < f (w.headD 0 * 8 + q) then srch f P fr r (q :: w) else none
theorem srG_in {f : Nat → Int32} {P fr r q : Nat} {w : List Nat} (h : q ∈ w) : srG f P fr r w q = none := if_neg (fun x => x.1 h)
theorem srG_no {f : Nat → Int32} {P fr r q a : Nat} {w : List Nat} (h : ¬ nI 0 < f (a * 8 + q)) : srG f P fr r (a :: w) q = none := if_neg (fun x => h x.2)
theorem srG_y {f : Nat → Int32} {P fr r q a : Nat} {w : List Nat} (h : q ∉ a :: w) (h2 : nI 0 < f (a * 8 + q)) : srG f P fr r (a :: w) q = srch f P fr r (q :: a :: w) := if_pos ⟨h, h2⟩
theorem note_61 {X : mX} {a b : Nat} (ha : a < 8) (hb : b < 8) : aw ET G d 43 0 [some (.ref 61), some (.int (nI a)), some (.int (nI b))] [] 231 sl (mem X Y) Q = Q [.int (X 66 (a * 8 + b))] 231 sl (mem X Y) := by
  simp (disch := omega) [w43_0, x43_1_61, w43_4, w43_5, w43_7, w43_8, w43_9, w43_10, w43_11, rt43, aw_st, ai_cls, ai_len, ai_p, ai_sw, ai_m, ai_c, ai_at, ai_isI, ai_isJ, ai_isA, ai_ld, ai_1i, ai_2i, ai_2l, ai_cn, ai_j, ai_set, ai_set2, ai_nl, ai_rs, ai_sm, Value.category, hk0, hk1, lits, litb, litm, litm2, List.getElem?_cons_zero, List.getElem?_cons_succ, or_n0, bit_r, fi0, fi1, fi2, fi3, nI_toInt, nI_add, pk_mul, nI_leI, nI_ltI, nI_eq, pk_sub, ib_nI, nI_clamp, va_up_self, va_up_ne, va_up_up, va_up_comm, pk_us, pk_un, upd_up, updL_up, pk_uLs, pk_uLn, b01_1, b01_0, b01_1s, b01_0s, or_b, mm62, mu62, mm63, mu63, mm64, mu64, mm65, mu65, mm66, mu66, mm67, mu67, mm68, mu68, mm69, mu69]
set_option maxHeartbeats 4000000 in
theorem closes_61 {f : Nat → Int32} {fr size : Nat} (hP : P ≤ 8) (kP : X 47 7 = nI P) (hf : X 66 = f) (hs : size ≤ 8) (hfr : fr < P) : ∀ (r : Nat) (w' : List Nat) (a : Nat) (g : Nat → Int32) (seen : Int32) (Q : List Value → Nat → Nat → ai_M → Prop), w'.length + 1 + r = size → (∀ q ∈ a :: w', q < P) → g 0 = nI fr → RW g (a :: w') → (∀ q, q < 8 → bt seen q = decide (q ∈ a :: w')) → (∀ g', (∀ z, srch f P fr r (a :: w') = some z → RW g' z) → RW g' (a :: w') → g' 0 = nI fr → Q [.int (b01 ((srch f P fr r (a :: w')).isSome = true))] 231 sl (mem (va_up X 69 g') Y)) → aw ET G (d + r + 1) 91 0 [some (.ref 61), some (.int (nI (w'.length + 1))), some (.int (nI size)), some (.int seen), none, none] [] 231 sl (mem (va_up X 69 g) Y) Q := by
  intro r
  induction r with
  | zero =>
    intro w' a g seen Q hl ha hg hw hse hQ
    have haP := ha a (by simp)
    have hw1 := hw.1
    have hq := hQ g (fun z hz => by unfold srch at hz; split at hz; · cases hz; exact hw
                                    · cases hz) hw hg
    rcases lt_or (nI 0) (f (a * 8 + fr)) with ⟨g1, g2⟩ | ⟨g1, g2⟩
    · have e : srch f P fr 0 (a :: w') = some (a :: w') := if_pos g1
      rw [e] at hq
      simp (disch := omega) [w91_0, w91_1, w91_2, w91_5, w91_6, w91_7, w91_10, w91_11, w91_13, w91_16, w91_17, w91_18, x91_19_61, w91_22, w91_23, w91_24, w91_25, w91_26, w91_28, w91_29, w91_30, w91_33, w91_34, w91_36, x91_37_61, w91_40, w91_41, x91_42_61, w91_45, w91_48, w91_49, w91_52, w91_53, w91_54, x91_55_61, w91_58, w91_59, w91_60, w91_61, w91_62, w91_66, x91_67_61, x91_70_47, w91_73, w91_76, w91_77, w91_79, w91_80, w91_81, w91_82, w91_85, w91_86, w91_88, x91_90_61, w91_93, w91_96, x91_97_61, w91_100, w91_101, w91_103, w91_104, w91_105, w91_106, w91_107, w91_108, w91_109, w91_110, w91_111, w91_113, w91_114, x91_115_61, w91_118, w91_121, w91_122, w91_123, w91_126, w91_129, w91_130, rt91, aw_st, ai_cls, ai_len, ai_p, ai_sw, ai_m, ai_c, ai_at, ai_isI, ai_isJ, ai_isA, ai_ld, ai_1i, ai_2i, ai_2l, ai_cn, ai_j, ai_set, ai_set2, ai_nl, ai_rs, ai_sm, Value.category, hk0, hk1, lits, litb, litm, litm2, List.getElem?_cons_zero, List.getElem?_cons_succ, or_n0, bit_r, fi0, fi1, fi2, fi3, nI_toInt, nI_add, pk_mul, nI_leI, nI_ltI, nI_eq, pk_sub, ib_nI, nI_clamp, va_up_self, va_up_ne, va_up_up, va_up_comm, pk_us, pk_un, upd_up, updL_up, pk_uLs, pk_uLn, b01_1, b01_0, b01_1s, b01_0s, or_b, mm62, mu62, mm63, mu63, mm64, mu64, mm65, mu65, mm66, mu66, mm67, mu67, mm68, mu68, mm69, mu69, note_61, hf, hw1, hg, g1, g2, show ¬ size ≤ w'.length by omega, show ¬ size < w'.length + 1 by omega, show size ≤ 8 by omega, show w'.length + 1 = size by omega, show size - 1 = w'.length by omega, show ¬ size = 0 by omega]
      exact hq
    · have e : srch f P fr 0 (a :: w') = none := if_neg g1
      rw [e] at hq
      simp (disch := omega) [w91_0, w91_1, w91_2, w91_5, w91_6, w91_7, w91_10, w91_11, w91_13, w91_16, w91_17, w91_18, x91_19_61, w91_22, w91_23, w91_24, w91_25, w91_26, w91_28, w91_29, w91_30, w91_33, w91_34, w91_36, x91_37_61, w91_40, w91_41, x91_42_61, w91_45, w91_48, w91_49, w91_52, w91_53, w91_54, x91_55_61, w91_58, w91_59, w91_60, w91_61, w91_62, w91_66, x91_67_61, x91_70_47, w91_73, w91_76, w91_77, w91_79, w91_80, w91_81, w91_82, w91_85, w91_86, w91_88, x91_90_61, w91_93, w91_96, x91_97_61, w91_100, w91_101, w91_103, w91_104, w91_105, w91_106, w91_107, w91_108, w91_109, w91_110, w91_111, w91_113, w91_114, x91_115_61, w91_118, w91_121, w91_122, w91_123, w91_126, w91_129, w91_130, rt91, aw_st, ai_cls, ai_len, ai_p, ai_sw, ai_m, ai_c, ai_at, ai_isI, ai_isJ, ai_isA, ai_ld, ai_1i, ai_2i, ai_2l, ai_cn, ai_j, ai_set, ai_set2, ai_nl, ai_rs, ai_sm, Value.category, hk0, hk1, lits, litb, litm, litm2, List.getElem?_cons_zero, List.getElem?_cons_succ, or_n0, bit_r, fi0, fi1, fi2, fi3, nI_toInt, nI_add, pk_mul, nI_leI, nI_ltI, nI_eq, pk_sub, ib_nI, nI_clamp, va_up_self, va_up_ne, va_up_up, va_up_comm, pk_us, pk_un, upd_up, updL_up, pk_uLs, pk_uLn, b01_1, b01_0, b01_1s, b01_0s, or_b, mm62, mu62, mm63, mu63, mm64, mu64, mm65, mu65, mm66, mu66, mm67, mu67, mm68, mu68, mm69, mu69, note_61, hf, hw1, hg, g1, g2, show ¬ size ≤ w'.length by omega, show ¬ size < w'.length + 1 by omega, show size ≤ 8 by omega, show w'.length + 1 = size by omega, show size - 1 = w'.length by omega, show ¬ size = 0 by omega]
      exact hq
  | succ r ih =>
    intro w' a g seen Q hl ha hg hw hse hQ
    have haP := ha a (by simp)
    have loop : ∀ (cc q : Nat) (g : Nat → Int32), q + cc = P → fr + 1 ≤ q → g 0 = nI fr → RW g (a :: w') → (∀ g', (∀ z, fsN (srG f P fr r (a :: w')) q cc = some z → RW g' z) → RW g' (a :: w') → g' 0 = nI fr → Q [.int (b01 ((fsN (srG f P fr r (a :: w')) q cc).isSome = true))] 231 sl (mem (va_up X 69 g') Y)) → aw ET G (d + (r + 1) + 1) 91 64 [some (.ref 61), some (.int (nI (w'.length + 1))), some (.int (nI size)), some (.int seen), some (.int (nI a)), some (.int (nI q))] [] 231 sl (mem (va_up X 69 g) Y) Q := by
      intro cc
      induction cc with
      | zero =>
        intro q g hq hq1 hg hw hQ
        have := hQ g (fun z hz => by cases hz) hw hg
        simp (disch := omega) [w91_1, w91_2, w91_5, w91_6, w91_7, w91_10, w91_11, w91_13, w91_16, w91_17, w91_18, x91_19_61, w91_22, w91_23, w91_24, w91_25, w91_26, w91_28, w91_29, w91_30, w91_33, w91_34, w91_36, x91_37_61, w91_40, w91_41, x91_42_61, w91_45, w91_48, w91_49, w91_52, w91_53, w91_54, x91_55_61, w91_58, w91_59, w91_60, w91_61, w91_62, w91_64, w91_66, x91_67_61, x91_70_47, w91_73, w91_76, w91_77, w91_79, w91_80, w91_81, w91_82, w91_85, w91_86, w91_88, x91_90_61, w91_93, w91_96, x91_97_61, w91_100, w91_101, w91_103, w91_104, w91_105, w91_106, w91_107, w91_108, w91_109, w91_110, w91_111, w91_113, w91_114, x91_115_61, w91_118, w91_121, w91_122, w91_123, w91_126, w91_129, w91_130, rt91, aw_st, ai_cls, ai_len, ai_p, ai_sw, ai_m, ai_c, ai_at, ai_isI, ai_isJ, ai_isA, ai_ld, ai_1i, ai_2i, ai_2l, ai_cn, ai_j, ai_set, ai_set2, ai_nl, ai_rs, ai_sm, Value.category, hk0, hk1, lits, litb, litm, litm2, List.getElem?_cons_zero, List.getElem?_cons_succ, or_n0, bit_r, fi0, fi1, fi2, fi3, nI_toInt, nI_add, pk_mul, nI_leI, nI_ltI, nI_eq, pk_sub, ib_nI, nI_clamp, va_up_self, va_up_ne, va_up_up, va_up_comm, pk_us, pk_un, upd_up, updL_up, pk_uLs, pk_uLn, b01_1, b01_0, b01_1s, b01_0s, or_b, mm62, mu62, mm63, mu63, mm64, mu64, mm65, mu65, mm66, mu66, mm67, mu67, mm68, mu68, mm69, mu69, kP, show P ≤ q by omega]
        exact this
      | succ cc ihc =>
        intro q g hq hq1 hg hw hQ
        have hb : bit seen (nI q) = b01 (bt seen q = true) := bit_val (by omega)
        have hbq := hse q (by omega)
        rw [w91_64]
        by_cases hm : q ∈ a :: w'
        · rw [hbq, decide_eq_true hm] at hb
          have hb1 : bit seen (nI q) = nI 1 := hb
          simp (disch := omega) [w91_1, w91_2, w91_5, w91_6, w91_7, w91_10, w91_11, w91_13, w91_16, w91_17, w91_18, x91_19_61, w91_22, w91_23, w91_24, w91_25, w91_26, w91_28, w91_29, w91_30, w91_33, w91_34, w91_36, x91_37_61, w91_40, w91_41, x91_42_61, w91_45, w91_48, w91_49, w91_52, w91_53, w91_54, x91_55_61, w91_58, w91_59, w91_60, w91_61, w91_62, w91_66, x91_67_61, x91_70_47, w91_73, w91_76, w91_77, w91_79, w91_80, w91_81, w91_82, w91_85, w91_86, w91_88, x91_90_61, w91_93, w91_96, x91_97_61, w91_100, w91_101, w91_103, w91_104, w91_105, w91_106, w91_107, w91_108, w91_109, w91_110, w91_111, w91_113, w91_114, x91_115_61, w91_118, w91_121, w91_122, w91_123, w91_126, w91_129, w91_130, rt91, aw_st, ai_cls, ai_len, ai_p, ai_sw, ai_m, ai_c, ai_at, ai_isI, ai_isJ, ai_isA, ai_ld, ai_1i, ai_2i, ai_2l, ai_cn, ai_j, ai_set, ai_set2, ai_nl, ai_rs, ai_sm, Value.category, hk0, hk1, lits, litb, litm, litm2, List.getElem?_cons_zero, List.getElem?_cons_succ, or_n0, bit_r, fi0, fi1, fi2, fi3, nI_toInt, nI_add, pk_mul, nI_leI, nI_ltI, nI_eq, pk_sub, ib_nI, nI_clamp, va_up_self, va_up_ne, va_up_up, va_up_comm, pk_us, pk_un, upd_up, updL_up, pk_uLs, pk_uLn, b01_1, b01_0, b01_1s, b01_0s, or_b, mm62, mu62, mm63, mu63, mm64, mu64, mm65, mu65, mm66, mu66, mm67, mu67, mm68, mu68, mm69, mu69, kP, hb1, show ¬ P ≤ q by omega]
          refine ihc (q + 1) g (by omega) (by omega) hg hw ?_
          intro g' q3 q4 q5
          have := hQ g' (by unfold fsN; rw [srG_in hm]; exact q3) q4 q5
          unfold fsN at this
          rw [srG_in hm] at this
          exact this
        · rw [hbq, decide_eq_false hm] at hb
          have hb1 : bit seen (nI q) = nI 0 := hb
          rcases lt_or (nI 0) (f (a * 8 + q)) with ⟨g1, g2⟩ | ⟨g1, g2⟩
          · have eG := srG_y (r := r) (fr := fr) (P := P) hm g1
            simp (disch := omega) [w91_1, w91_2, w91_5, w91_6, w91_7, w91_10, w91_11, w91_13, w91_16, w91_17, w91_18, x91_19_61, w91_22, w91_23, w91_24, w91_25, w91_26, w91_28, w91_29, w91_30, w91_33, w91_34, w91_36, x91_37_61, w91_40, w91_41, x91_42_61, w91_45, w91_48, w91_49, w91_52, w91_53, w91_54, x91_55_61, w91_58, w91_59, w91_60, w91_61, w91_62, w91_66, x91_67_61, x91_70_47, w91_73, w91_76, w91_77, w91_79, w91_80, w91_81, w91_82, w91_85, w91_86, w91_88, x91_90_61, w91_93, w91_96, x91_97_61, w91_100, w91_101, w91_103, w91_104, w91_105, w91_106, w91_107, w91_108, w91_109, w91_110, w91_111, w91_113, w91_114, x91_115_61, w91_118, w91_121, w91_122, w91_123, w91_126, w91_129, w91_130, rt91, aw_st, ai_cls, ai_len, ai_p, ai_sw, ai_m, ai_c, ai_at, ai_isI, ai_isJ, ai_isA, ai_ld, ai_1i, ai_2i, ai_2l, ai_cn, ai_j, ai_set, ai_set2, ai_nl, ai_rs, ai_sm, Value.category, hk0, hk1, lits, litb, litm, litm2, List.getElem?_cons_zero, List.getElem?_cons_succ, or_n0, bit_r, fi0, fi1, fi2, fi3, nI_toInt, nI_add, pk_mul, nI_leI, nI_ltI, nI_eq, pk_sub, ib_nI, nI_clamp, va_up_self, va_up_ne, va_up_up, va_up_comm, pk_us, pk_un, upd_up, updL_up, pk_uLs, pk_uLn, b01_1, b01_0, b01_1s, b01_0s, or_b, mm62, mu62, mm63, mu63, mm64, mu64, mm65, mu65, mm66, mu66, mm67, mu67, mm68, mu68, mm69, mu69, kP, hb1, note_61, hf, g1, g2, show ¬ P ≤ q by omega]
            refine ih (a :: w') q (upd g (w'.length + 1) (nI q)) _ _ (by simp; omega) ?_ ?_ (RW_push hw) ?_ ?_
            · intro x hx
              rcases List.mem_cons.mp hx with rfl | hx
              · omega
              · exact ha x hx
            · rw [pk_un (by omega)]; exact hg
            · intro x hx
              have := bt_or1 (w := seen) (p := q) (q := x) (by omega) (by omega)
              rw [show (1 : Int32) = nI 1 from rfl] at this
              rw [this, hse x hx]
              simp
            · intro g' q3 q4 q5
              cases hz : srch f P fr r (q :: a :: w') with
              | some z =>
                have := hQ g' (by unfold fsN; rw [eG, hz]; intro z' hz'; cases hz'; exact q3 _ hz) q4.2 q5
                unfold fsN at this
                rw [eG, hz] at this
                simp (disch := omega) [w91_118, w91_121, w91_122, rt91, aw_st, ai_cls, ai_len, ai_p, ai_sw, ai_m, ai_c, ai_at, ai_isI, ai_isJ, ai_isA, ai_ld, ai_1i, ai_2i, ai_2l, ai_cn, ai_j, ai_set, ai_set2, ai_nl, ai_rs, ai_sm, Value.category, hk0, hk1, lits, litb, litm, litm2, List.getElem?_cons_zero, List.getElem?_cons_succ, or_n0, bit_r, fi0, fi1, fi2, fi3, nI_toInt, nI_add, pk_mul, nI_leI, nI_ltI, nI_eq, pk_sub, ib_nI, nI_clamp, va_up_self, va_up_ne, va_up_up, va_up_comm, pk_us, pk_un, upd_up, updL_up, pk_uLs, pk_uLn, b01_1, b01_0, b01_1s, b01_0s, or_b, b01]
                exact this
              | none =>
                simp (disch := omega) [w91_118, w91_123, w91_126, rt91, aw_st, ai_cls, ai_len, ai_p, ai_sw, ai_m, ai_c, ai_at, ai_isI, ai_isJ, ai_isA, ai_ld, ai_1i, ai_2i, ai_2l, ai_cn, ai_j, ai_set, ai_set2, ai_nl, ai_rs, ai_sm, Value.category, hk0, hk1, lits, litb, litm, litm2, List.getElem?_cons_zero, List.getElem?_cons_succ, or_n0, bit_r, fi0, fi1, fi2, fi3, nI_toInt, nI_add, pk_mul, nI_leI, nI_ltI, nI_eq, pk_sub, ib_nI, nI_clamp, va_up_self, va_up_ne, va_up_up, va_up_comm, pk_us, pk_un, upd_up, updL_up, pk_uLs, pk_uLn, b01_1, b01_0, b01_1s, b01_0s, or_b, b01]
                refine ihc (q + 1) g' (by omega) (by omega) q5 q4.2 ?_
                intro g2 p3 p4 p5
                have := hQ g2 (by unfold fsN; rw [eG, hz]; exact p3) p4 p5
                unfold fsN at this
                rw [eG, hz] at this
                exact this
          · have eG := srG_no (r := r) (fr := fr) (P := P) (w := w') g1
            simp (disch := omega) [w91_1, w91_2, w91_5, w91_6, w91_7, w91_10, w91_11, w91_13, w91_16, w91_17, w91_18, x91_19_61, w91_22, w91_23, w91_24, w91_25, w91_26, w91_28, w91_29, w91_30, w91_33, w91_34, w91_36, x91_37_61, w91_40, w91_41, x91_42_61, w91_45, w91_48, w91_49, w91_52, w91_53, w91_54, x91_55_61, w91_58, w91_59, w91_60, w91_61, w91_62, w91_66, x91_67_61, x91_70_47, w91_73, w91_76, w91_77, w91_79, w91_80, w91_81, w91_82, w91_85, w91_86, w91_88, x91_90_61, w91_93, w91_96, x91_97_61, w91_100, w91_101, w91_103, w91_104, w91_105, w91_106, w91_107, w91_108, w91_109, w91_110, w91_111, w91_113, w91_114, x91_115_61, w91_118, w91_121, w91_122, w91_123, w91_126, w91_129, w91_130, rt91, aw_st, ai_cls, ai_len, ai_p, ai_sw, ai_m, ai_c, ai_at, ai_isI, ai_isJ, ai_isA, ai_ld, ai_1i, ai_2i, ai_2l, ai_cn, ai_j, ai_set, ai_set2, ai_nl, ai_rs, ai_sm, Value.category, hk0, hk1, lits, litb, litm, litm2, List.getElem?_cons_zero, List.getElem?_cons_succ, or_n0, bit_r, fi0, fi1, fi2, fi3, nI_toInt, nI_add, pk_mul, nI_leI, nI_ltI, nI_eq, pk_sub, ib_nI, nI_clamp, va_up_self, va_up_ne, va_up_up, va_up_comm, pk_us, pk_un, upd_up, updL_up, pk_uLs, pk_uLn, b01_1, b01_0, b01_1s, b01_0s, or_b, mm62, mu62, mm63, mu63, mm64, mu64, mm65, mu65, mm66, mu66, mm67, mu67, mm68, mu68, mm69, mu69, kP, hb1, note_61, hf, g1, g2, show ¬ P ≤ q by omega]
            refine ihc (q + 1) g (by omega) (by omega) hg hw ?_
            intro g' q3 q4 q5
            have := hQ g' (by unfold fsN; rw [eG]; exact q3) q4 q5
            unfold fsN at this
            rw [eG] at this
            exact this
    have hw1 := hw.1
    simp (disch := omega) [w91_0, w91_1, w91_2, w91_5, w91_6, w91_7, w91_10, w91_11, w91_13, w91_16, w91_17, w91_18, x91_19_61, w91_22, w91_23, w91_24, w91_25, w91_26, w91_28, w91_29, w91_30, w91_33, w91_34, w91_36, x91_37_61, w91_40, w91_41, x91_42_61, w91_45, w91_48, w91_49, w91_52, w91_53, w91_54, x91_55_61, w91_58, w91_59, w91_60, w91_61, w91_62, w91_66, x91_67_61, x91_70_47, w91_73, w91_76, w91_77, w91_79, w91_80, w91_81, w91_82, w91_85, w91_86, w91_88, x91_90_61, w91_93, w91_96, x91_97_61, w91_100, w91_101, w91_103, w91_104, w91_105, w91_106, w91_107, w91_108, w91_109, w91_110, w91_111, w91_113, w91_114, x91_115_61, w91_118, w91_121, w91_122, w91_123, w91_126, w91_129, w91_130, rt91, aw_st, ai_cls, ai_len, ai_p, ai_sw, ai_m, ai_c, ai_at, ai_isI, ai_isJ, ai_isA, ai_ld, ai_1i, ai_2i, ai_2l, ai_cn, ai_j, ai_set, ai_set2, ai_nl, ai_rs, ai_sm, Value.category, hk0, hk1, lits, litb, litm, litm2, List.getElem?_cons_zero, List.getElem?_cons_succ, or_n0, bit_r, fi0, fi1, fi2, fi3, nI_toInt, nI_add, pk_mul, nI_leI, nI_ltI, nI_eq, pk_sub, ib_nI, nI_clamp, va_up_self, va_up_ne, va_up_up, va_up_comm, pk_us, pk_un, upd_up, updL_up, pk_uLs, pk_uLn, b01_1, b01_0, b01_1s, b01_0s, or_b, mm62, mu62, mm63, mu63, mm64, mu64, mm65, mu65, mm66, mu66, mm67, mu67, mm68, mu68, mm69, mu69, hw1, hg, show ¬ size < w'.length + 1 by omega, show size ≤ 8 by omega, show ¬ w'.length + 1 = size by omega, show w'.length + 1 - 1 = w'.length by omega]
    refine loop (P - (fr + 1)) (fr + 1) g (by omega) (by omega) hg hw ?_
    intro g' q3 q4 q5
    exact hQ g' q3 q4 q5
theorem note_70 {X : mX} {a b : Nat} (ha : a < 8) (hb : b < 8) : aw ET G d 43 0 [some (.ref 70), some (.int (nI a)), some (.int (nI b))] [] 231 sl (mem X Y) Q = Q [.int (X 75 (a * 8 + b))] 231 sl (mem X Y) := by
  simp (disch := omega) [w43_0, x43_1_70, w43_4, w43_5, w43_7, w43_8, w43_9, w43_10, w43_11, rt43, aw_st, ai_cls, ai_len, ai_p, ai_sw, ai_m, ai_c, ai_at, ai_isI, ai_isJ, ai_isA, ai_ld, ai_1i, ai_2i, ai_2l, ai_cn, ai_j, ai_set, ai_set2, ai_nl, ai_rs, ai_sm, Value.category, hk0, hk1, lits, litb, litm, litm2, List.getElem?_cons_zero, List.getElem?_cons_succ, or_n0, bit_r, fi0, fi1, fi2, fi3, nI_toInt, nI_add, pk_mul, nI_leI, nI_ltI, nI_eq, pk_sub, ib_nI, nI_clamp, va_up_self, va_up_ne, va_up_up, va_up_comm, pk_us, pk_un, upd_up, updL_up, pk_uLs, pk_uLn, b01_1, b01_0, b01_1s, b01_0s, or_b, mm71, mu71, mm72, mu72, mm73, mu73, mm74, mu74, mm75, mu75, mm76, mu76, mm77, mu77, mm78, mu78]
set_option maxHeartbeats 4000000 in
theorem closes_70 {f : Nat → Int32} {fr size : Nat} (hP : P ≤ 8) (kP : X 47 7 = nI P) (hf : X 75 = f) (hs : size ≤ 8) (hfr : fr < P) : ∀ (r : Nat) (w' : List Nat) (a : Nat) (g : Nat → Int32) (seen : Int32) (Q : List Value → Nat → Nat → ai_M → Prop), w'.length + 1 + r = size → (∀ q ∈ a :: w', q < P) → g 0 = nI fr → RW g (a :: w') → (∀ q, q < 8 → bt seen q = decide (q ∈ a :: w')) → (∀ g', (∀ z, srch f P fr r (a :: w') = some z → RW g' z) → RW g' (a :: w') → g' 0 = nI fr → Q [.int (b01 ((srch f P fr r (a :: w')).isSome = true))] 231 sl (mem (va_up X 78 g') Y)) → aw ET G (d + r + 1) 91 0 [some (.ref 70), some (.int (nI (w'.length + 1))), some (.int (nI size)), some (.int seen), none, none] [] 231 sl (mem (va_up X 78 g) Y) Q := by
  intro r
  induction r with
  | zero =>
    intro w' a g seen Q hl ha hg hw hse hQ
    have haP := ha a (by simp)
    have hw1 := hw.1
    have hq := hQ g (fun z hz => by unfold srch at hz; split at hz; · cases hz; exact hw
                                    · cases hz) hw hg
    rcases lt_or (nI 0) (f (a * 8 + fr)) with ⟨g1, g2⟩ | ⟨g1, g2⟩
    · have e : srch f P fr 0 (a :: w') = some (a :: w') := if_pos g1
      rw [e] at hq
      simp (disch := omega) [w91_0, w91_1, w91_2, w91_5, w91_6, w91_7, w91_10, w91_11, w91_13, w91_16, w91_17, w91_18, x91_19_70, w91_22, w91_23, w91_24, w91_25, w91_26, w91_28, w91_29, w91_30, w91_33, w91_34, w91_36, x91_37_70, w91_40, w91_41, x91_42_70, w91_45, w91_48, w91_49, w91_52, w91_53, w91_54, x91_55_70, w91_58, w91_59, w91_60, w91_61, w91_62, w91_66, x91_67_70, x91_70_47, w91_73, w91_76, w91_77, w91_79, w91_80, w91_81, w91_82, w91_85, w91_86, w91_88, x91_90_70, w91_93, w91_96, x91_97_70, w91_100, w91_101, w91_103, w91_104, w91_105, w91_106, w91_107, w91_108, w91_109, w91_110, w91_111, w91_113, w91_114, x91_115_70, w91_118, w91_121, w91_122, w91_123, w91_126, w91_129, w91_130, rt91, aw_st, ai_cls, ai_len, ai_p, ai_sw, ai_m, ai_c, ai_at, ai_isI, ai_isJ, ai_isA, ai_ld, ai_1i, ai_2i, ai_2l, ai_cn, ai_j, ai_set, ai_set2, ai_nl, ai_rs, ai_sm, Value.category, hk0, hk1, lits, litb, litm, litm2, List.getElem?_cons_zero, List.getElem?_cons_succ, or_n0, bit_r, fi0, fi1, fi2, fi3, nI_toInt, nI_add, pk_mul, nI_leI, nI_ltI, nI_eq, pk_sub, ib_nI, nI_clamp, va_up_self, va_up_ne, va_up_up, va_up_comm, pk_us, pk_un, upd_up, updL_up, pk_uLs, pk_uLn, b01_1, b01_0, b01_1s, b01_0s, or_b, mm71, mu71, mm72, mu72, mm73, mu73, mm74, mu74, mm75, mu75, mm76, mu76, mm77, mu77, mm78, mu78, note_70, hf, hw1, hg, g1, g2, show ¬ size ≤ w'.length by omega, show ¬ size < w'.length + 1 by omega, show size ≤ 8 by omega, show w'.length + 1 = size by omega, show size - 1 = w'.length by omega, show ¬ size = 0 by omega]
      exact hq
    · have e : srch f P fr 0 (a :: w') = none := if_neg g1
      rw [e] at hq
      simp (disch := omega) [w91_0, w91_1, w91_2, w91_5, w91_6, w91_7, w91_10, w91_11, w91_13, w91_16, w91_17, w91_18, x91_19_70, w91_22, w91_23, w91_24, w91_25, w91_26, w91_28, w91_29, w91_30, w91_33, w91_34, w91_36, x91_37_70, w91_40, w91_41, x91_42_70, w91_45, w91_48, w91_49, w91_52, w91_53, w91_54, x91_55_70, w91_58, w91_59, w91_60, w91_61, w91_62, w91_66, x91_67_70, x91_70_47, w91_73, w91_76, w91_77, w91_79, w91_80, w91_81, w91_82, w91_85, w91_86, w91_88, x91_90_70, w91_93, w91_96, x91_97_70, w91_100, w91_101, w91_103, w91_104, w91_105, w91_106, w91_107, w91_108, w91_109, w91_110, w91_111, w91_113, w91_114, x91_115_70, w91_118, w91_121, w91_122, w91_123, w91_126, w91_129, w91_130, rt91, aw_st, ai_cls, ai_len, ai_p, ai_sw, ai_m, ai_c, ai_at, ai_isI, ai_isJ, ai_isA, ai_ld, ai_1i, ai_2i, ai_2l, ai_cn, ai_j, ai_set, ai_set2, ai_nl, ai_rs, ai_sm, Value.category, hk0, hk1, lits, litb, litm, litm2, List.getElem?_cons_zero, List.getElem?_cons_succ, or_n0, bit_r, fi0, fi1, fi2, fi3, nI_toInt, nI_add, pk_mul, nI_leI, nI_ltI, nI_eq, pk_sub, ib_nI, nI_clamp, va_up_self, va_up_ne, va_up_up, va_up_comm, pk_us, pk_un, upd_up, updL_up, pk_uLs, pk_uLn, b01_1, b01_0, b01_1s, b01_0s, or_b, mm71, mu71, mm72, mu72, mm73, mu73, mm74, mu74, mm75, mu75, mm76, mu76, mm77, mu77, mm78, mu78, note_70, hf, hw1, hg, g1, g2, show ¬ size ≤ w'.length by omega, show ¬ size < w'.length + 1 by omega, show size ≤ 8 by omega, show w'.length + 1 = size by omega, show size - 1 = w'.length by omega, show ¬ size = 0 by omega]
      exact hq
  | succ r ih =>
    intro w' a g seen Q hl ha hg hw hse hQ
    have haP := ha a (by simp)
    have loop : ∀ (cc q : Nat) (g : Nat → Int32), q + cc = P → fr + 1 ≤ q → g 0 = nI fr → RW g (a :: w') → (∀ g', (∀ z, fsN (srG f P fr r (a :: w')) q cc = some z → RW g' z) → RW g' (a :: w') → g' 0 = nI fr → Q [.int (b01 ((fsN (srG f P fr r (a :: w')) q cc).isSome = true))] 231 sl (mem (va_up X 78 g') Y)) → aw ET G (d + (r + 1) + 1) 91 64 [some (.ref 70), some (.int (nI (w'.length + 1))), some (.int (nI size)), some (.int seen), some (.int (nI a)), some (.int (nI q))] [] 231 sl (mem (va_up X 78 g) Y) Q := by
      intro cc
      induction cc with
      | zero =>
        intro q g hq hq1 hg hw hQ
        have := hQ g (fun z hz => by cases hz) hw hg
        simp (disch := omega) [w91_1, w91_2, w91_5, w91_6, w91_7, w91_10, w91_11, w91_13, w91_16, w91_17, w91_18, x91_19_70, w91_22, w91_23, w91_24, w91_25, w91_26, w91_28, w91_29, w91_30, w91_33, w91_34, w91_36, x91_37_70, w91_40, w91_41, x91_42_70, w91_45, w91_48, w91_49, w91_52, w91_53, w91_54, x91_55_70, w91_58, w91_59, w91_60, w91_61, w91_62, w91_64, w91_66, x91_67_70, x91_70_47, w91_73, w91_76, w91_77, w91_79, w91_80, w91_81, w91_82, w91_85, w91_86, w91_88, x91_90_70, w91_93, w91_96, x91_97_70, w91_100, w91_101, w91_103, w91_104, w91_105, w91_106, w91_107, w91_108, w91_109, w91_110, w91_111, w91_113, w91_114, x91_115_70, w91_118, w91_121, w91_122, w91_123, w91_126, w91_129, w91_130, rt91, aw_st, ai_cls, ai_len, ai_p, ai_sw, ai_m, ai_c, ai_at, ai_isI, ai_isJ, ai_isA, ai_ld, ai_1i, ai_2i, ai_2l, ai_cn, ai_j, ai_set, ai_set2, ai_nl, ai_rs, ai_sm, Value.category, hk0, hk1, lits, litb, litm, litm2, List.getElem?_cons_zero, List.getElem?_cons_succ, or_n0, bit_r, fi0, fi1, fi2, fi3, nI_toInt, nI_add, pk_mul, nI_leI, nI_ltI, nI_eq, pk_sub, ib_nI, nI_clamp, va_up_self, va_up_ne, va_up_up, va_up_comm, pk_us, pk_un, upd_up, updL_up, pk_uLs, pk_uLn, b01_1, b01_0, b01_1s, b01_0s, or_b, mm71, mu71, mm72, mu72, mm73, mu73, mm74, mu74, mm75, mu75, mm76, mu76, mm77, mu77, mm78, mu78, kP, show P ≤ q by omega]
        exact this
      | succ cc ihc =>
        intro q g hq hq1 hg hw hQ
        have hb : bit seen (nI q) = b01 (bt seen q = true) := bit_val (by omega)
        have hbq := hse q (by omega)
        rw [w91_64]
        by_cases hm : q ∈ a :: w'
        · rw [hbq, decide_eq_true hm] at hb
          have hb1 : bit seen (nI q) = nI 1 := hb
          simp (disch := omega) [w91_1, w91_2, w91_5, w91_6, w91_7, w91_10, w91_11, w91_13, w91_16, w91_17, w91_18, x91_19_70, w91_22, w91_23, w91_24, w91_25, w91_26, w91_28, w91_29, w91_30, w91_33, w91_34, w91_36, x91_37_70, w91_40, w91_41, x91_42_70, w91_45, w91_48, w91_49, w91_52, w91_53, w91_54, x91_55_70, w91_58, w91_59, w91_60, w91_61, w91_62, w91_66, x91_67_70, x91_70_47, w91_73, w91_76, w91_77, w91_79, w91_80, w91_81, w91_82, w91_85, w91_86, w91_88, x91_90_70, w91_93, w91_96, x91_97_70, w91_100, w91_101, w91_103, w91_104, w91_105, w91_106, w91_107, w91_108, w91_109, w91_110, w91_111, w91_113, w91_114, x91_115_70, w91_118, w91_121, w91_122, w91_123, w91_126, w91_129, w91_130, rt91, aw_st, ai_cls, ai_len, ai_p, ai_sw, ai_m, ai_c, ai_at, ai_isI, ai_isJ, ai_isA, ai_ld, ai_1i, ai_2i, ai_2l, ai_cn, ai_j, ai_set, ai_set2, ai_nl, ai_rs, ai_sm, Value.category, hk0, hk1, lits, litb, litm, litm2, List.getElem?_cons_zero, List.getElem?_cons_succ, or_n0, bit_r, fi0, fi1, fi2, fi3, nI_toInt, nI_add, pk_mul, nI_leI, nI_ltI, nI_eq, pk_sub, ib_nI, nI_clamp, va_up_self, va_up_ne, va_up_up, va_up_comm, pk_us, pk_un, upd_up, updL_up, pk_uLs, pk_uLn, b01_1, b01_0, b01_1s, b01_0s, or_b, mm71, mu71, mm72, mu72, mm73, mu73, mm74, mu74, mm75, mu75, mm76, mu76, mm77, mu77, mm78, mu78, kP, hb1, show ¬ P ≤ q by omega]
          refine ihc (q + 1) g (by omega) (by omega) hg hw ?_
          intro g' q3 q4 q5
          have := hQ g' (by unfold fsN; rw [srG_in hm]; exact q3) q4 q5
          unfold fsN at this
          rw [srG_in hm] at this
          exact this
        · rw [hbq, decide_eq_false hm] at hb
          have hb1 : bit seen (nI q) = nI 0 := hb
          rcases lt_or (nI 0) (f (a * 8 + q)) with ⟨g1, g2⟩ | ⟨g1, g2⟩
          · have eG := srG_y (r := r) (fr := fr) (P := P) hm g1
            simp (disch := omega) [w91_1, w91_2, w91_5, w91_6, w91_7, w91_10, w91_11, w91_13, w91_16, w91_17, w91_18, x91_19_70, w91_22, w91_23, w91_24, w91_25, w91_26, w91_28, w91_29, w91_30, w91_33, w91_34, w91_36, x91_37_70, w91_40, w91_41, x91_42_70, w91_45, w91_48, w91_49, w91_52, w91_53, w91_54, x91_55_70, w91_58, w91_59, w91_60, w91_61, w91_62, w91_66, x91_67_70, x91_70_47, w91_73, w91_76, w91_77, w91_79, w91_80, w91_81, w91_82, w91_85, w91_86, w91_88, x91_90_70, w91_93, w91_96, x91_97_70, w91_100, w91_101, w91_103, w91_104, w91_105, w91_106, w91_107, w91_108, w91_109, w91_110, w91_111, w91_113, w91_114, x91_115_70, w91_118, w91_121, w91_122, w91_123, w91_126, w91_129, w91_130, rt91, aw_st, ai_cls, ai_len, ai_p, ai_sw, ai_m, ai_c, ai_at, ai_isI, ai_isJ, ai_isA, ai_ld, ai_1i, ai_2i, ai_2l, ai_cn, ai_j, ai_set, ai_set2, ai_nl, ai_rs, ai_sm, Value.category, hk0, hk1, lits, litb, litm, litm2, List.getElem?_cons_zero, List.getElem?_cons_succ, or_n0, bit_r, fi0, fi1, fi2, fi3, nI_toInt, nI_add, pk_mul, nI_leI, nI_ltI, nI_eq, pk_sub, ib_nI, nI_clamp, va_up_self, va_up_ne, va_up_up, va_up_comm, pk_us, pk_un, upd_up, updL_up, pk_uLs, pk_uLn, b01_1, b01_0, b01_1s, b01_0s, or_b, mm71, mu71, mm72, mu72, mm73, mu73, mm74, mu74, mm75, mu75, mm76, mu76, mm77, mu77, mm78, mu78, kP, hb1, note_70, hf, g1, g2, show ¬ P ≤ q by omega]
            refine ih (a :: w') q (upd g (w'.length + 1) (nI q)) _ _ (by simp; omega) ?_ ?_ (RW_push hw) ?_ ?_
            · intro x hx
              rcases List.mem_cons.mp hx with rfl | hx
              · omega
              · exact ha x hx
            · rw [pk_un (by omega)]; exact hg
            · intro x hx
              have := bt_or1 (w := seen) (p := q) (q := x) (by omega) (by omega)
              rw [show (1 : Int32) = nI 1 from rfl] at this
              rw [this, hse x hx]
              simp
            · intro g' q3 q4 q5
              cases hz : srch f P fr r (q :: a :: w') with
              | some z =>
                have := hQ g' (by unfold fsN; rw [eG, hz]; intro z' hz'; cases hz'; exact q3 _ hz) q4.2 q5
                unfold fsN at this
                rw [eG, hz] at this
                simp (disch := omega) [w91_118, w91_121, w91_122, rt91, aw_st, ai_cls, ai_len, ai_p, ai_sw, ai_m, ai_c, ai_at, ai_isI, ai_isJ, ai_isA, ai_ld, ai_1i, ai_2i, ai_2l, ai_cn, ai_j, ai_set, ai_set2, ai_nl, ai_rs, ai_sm, Value.category, hk0, hk1, lits, litb, litm, litm2, List.getElem?_cons_zero, List.getElem?_cons_succ, or_n0, bit_r, fi0, fi1, fi2, fi3, nI_toInt, nI_add, pk_mul, nI_leI, nI_ltI, nI_eq, pk_sub, ib_nI, nI_clamp, va_up_self, va_up_ne, va_up_up, va_up_comm, pk_us, pk_un, upd_up, updL_up, pk_uLs, pk_uLn, b01_1, b01_0, b01_1s, b01_0s, or_b, b01]
                exact this
              | none =>
                simp (disch := omega) [w91_118, w91_123, w91_126, rt91, aw_st, ai_cls, ai_len, ai_p, ai_sw, ai_m, ai_c, ai_at, ai_isI, ai_isJ, ai_isA, ai_ld, ai_1i, ai_2i, ai_2l, ai_cn, ai_j, ai_set, ai_set2, ai_nl, ai_rs, ai_sm, Value.category, hk0, hk1, lits, litb, litm, litm2, List.getElem?_cons_zero, List.getElem?_cons_succ, or_n0, bit_r, fi0, fi1, fi2, fi3, nI_toInt, nI_add, pk_mul, nI_leI, nI_ltI, nI_eq, pk_sub, ib_nI, nI_clamp, va_up_self, va_up_ne, va_up_up, va_up_comm, pk_us, pk_un, upd_up, updL_up, pk_uLs, pk_uLn, b01_1, b01_0, b01_1s, b01_0s, or_b, b01]
                refine ihc (q + 1) g' (by omega) (by omega) q5 q4.2 ?_
                intro g2 p3 p4 p5
                have := hQ g2 (by unfold fsN; rw [eG, hz]; exact p3) p4 p5
                unfold fsN at this
                rw [eG, hz] at this
                exact this
          · have eG := srG_no (r := r) (fr := fr) (P := P) (w := w') g1
            simp (disch := omega) [w91_1, w91_2, w91_5, w91_6, w91_7, w91_10, w91_11, w91_13, w91_16, w91_17, w91_18, x91_19_70, w91_22, w91_23, w91_24, w91_25, w91_26, w91_28, w91_29, w91_30, w91_33, w91_34, w91_36, x91_37_70, w91_40, w91_41, x91_42_70, w91_45, w91_48, w91_49, w91_52, w91_53, w91_54, x91_55_70, w91_58, w91_59, w91_60, w91_61, w91_62, w91_66, x91_67_70, x91_70_47, w91_73, w91_76, w91_77, w91_79, w91_80, w91_81, w91_82, w91_85, w91_86, w91_88, x91_90_70, w91_93, w91_96, x91_97_70, w91_100, w91_101, w91_103, w91_104, w91_105, w91_106, w91_107, w91_108, w91_109, w91_110, w91_111, w91_113, w91_114, x91_115_70, w91_118, w91_121, w91_122, w91_123, w91_126, w91_129, w91_130, rt91, aw_st, ai_cls, ai_len, ai_p, ai_sw, ai_m, ai_c, ai_at, ai_isI, ai_isJ, ai_isA, ai_ld, ai_1i, ai_2i, ai_2l, ai_cn, ai_j, ai_set, ai_set2, ai_nl, ai_rs, ai_sm, Value.category, hk0, hk1, lits, litb, litm, litm2, List.getElem?_cons_zero, List.getElem?_cons_succ, or_n0, bit_r, fi0, fi1, fi2, fi3, nI_toInt, nI_add, pk_mul, nI_leI, nI_ltI, nI_eq, pk_sub, ib_nI, nI_clamp, va_up_self, va_up_ne, va_up_up, va_up_comm, pk_us, pk_un, upd_up, updL_up, pk_uLs, pk_uLn, b01_1, b01_0, b01_1s, b01_0s, or_b, mm71, mu71, mm72, mu72, mm73, mu73, mm74, mu74, mm75, mu75, mm76, mu76, mm77, mu77, mm78, mu78, kP, hb1, note_70, hf, g1, g2, show ¬ P ≤ q by omega]
            refine ihc (q + 1) g (by omega) (by omega) hg hw ?_
            intro g' q3 q4 q5
            have := hQ g' (by unfold fsN; rw [eG]; exact q3) q4 q5
            unfold fsN at this
            rw [eG] at this
            exact this
    have hw1 := hw.1
    simp (disch := omega) [w91_0, w91_1, w91_2, w91_5, w91_6, w91_7, w91_10, w91_11, w91_13, w91_16, w91_17, w91_18, x91_19_70, w91_22, w91_23, w91_24, w91_25, w91_26, w91_28, w91_29, w91_30, w91_33, w91_34, w91_36, x91_37_70, w91_40, w91_41, x91_42_70, w91_45, w91_48, w91_49, w91_52, w91_53, w91_54, x91_55_70, w91_58, w91_59, w91_60, w91_61, w91_62, w91_66, x91_67_70, x91_70_47, w91_73, w91_76, w91_77, w91_79, w91_80, w91_81, w91_82, w91_85, w91_86, w91_88, x91_90_70, w91_93, w91_96, x91_97_70, w91_100, w91_101, w91_103, w91_104, w91_105, w91_106, w91_107, w91_108, w91_109, w91_110, w91_111, w91_113, w91_114, x91_115_70, w91_118, w91_121, w91_122, w91_123, w91_126, w91_129, w91_130, rt91, aw_st, ai_cls, ai_len, ai_p, ai_sw, ai_m, ai_c, ai_at, ai_isI, ai_isJ, ai_isA, ai_ld, ai_1i, ai_2i, ai_2l, ai_cn, ai_j, ai_set, ai_set2, ai_nl, ai_rs, ai_sm, Value.category, hk0, hk1, lits, litb, litm, litm2, List.getElem?_cons_zero, List.getElem?_cons_succ, or_n0, bit_r, fi0, fi1, fi2, fi3, nI_toInt, nI_add, pk_mul, nI_leI, nI_ltI, nI_eq, pk_sub, ib_nI, nI_clamp, va_up_self, va_up_ne, va_up_up, va_up_comm, pk_us, pk_un, upd_up, updL_up, pk_uLs, pk_uLn, b01_1, b01_0, b01_1s, b01_0s, or_b, mm71, mu71, mm72, mu72, mm73, mu73, mm74, mu74, mm75, mu75, mm76, mu76, mm77, mu77, mm78, mu78, hw1, hg, show ¬ size < w'.length + 1 by omega, show size ≤ 8 by omega, show ¬ w'.length + 1 = size by omega, show w'.length + 1 - 1 = w'.length by omega]
    refine loop (P - (fr + 1)) (fr + 1) g (by omega) (by omega) hg hw ?_
    intro g' q3 q4 q5
    exact hQ g' q3 q4 q5
end RNC
