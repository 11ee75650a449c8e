/-! RINGS: struck out by the class -/
section RNS
variable {G : ai_G} {d n sl : Nat} {Q : List Value → Nat → Nat → ai_M → Prop} {P S : Nat} {Y : mY}
theorem minI_h (x y : Int32) : (if y < x then y else x) = minI x y := rfl
theorem va3 (X : mX) (o : Nat) (a b c : Nat → Int32) (e : Nat → Int32) (h : Nat → Int32) : va_up (va_up (va_up (va_up (va_up X o a) (o + 5) b) (o + 8) c) o e) (o + 5) h = va_up (va_up (va_up X o e) (o + 5) h) (o + 8) c := by
  funext j
  simp only [va_up]
  by_cases h1 : j = o
  · subst h1; simp
  · by_cases h2 : j = o + 5
    · subst h2; simp
    · simp [h1, h2]
set_option maxHeartbeats 4000000 in
theorem rowMin_61 {X : mX} {f g : Nat → Int32} {z : List Nat} (hf : X 66 = f) (hg : X 69 = g) (hw : RW g z) (hz : ∀ q ∈ z, q < 8) (hl : z.length ≤ 8) {z4 : Option Value} : ∀ (r i : Nat) (acc : Int32), i + r + 1 = z.length → aw ET G (d + 1) 92 21 [some (.ref 61), some (.int (nI z.length)), some (.int acc), some (.int (nI i)), z4] [] 231 sl (mem X Y) Q = aw ET G (d + 1) 92 57 [some (.ref 61), some (.int (nI z.length)), some (.int (lstR f z i r acc)), some (.int (nI (z.length - 1))), z4] [] 231 sl (mem X Y) Q := by
  intro r
  induction r with
  | zero =>
    intro i acc hi
    have : i = z.length - 1 := by omega
    subst this
    simp (disch := omega) [w92_21, w92_22, w92_23, w92_24, w92_25, aw_st, ai_cls, ai_len, ai_p, ai_sw, ai_m, ai_c, ai_at, ai_isI, ai_isJ, ai_isA, ai_ld, ai_1i, ai_2i, ai_2l, ai_cn, ai_j, ai_set, ai_set2, ai_nl, ai_rs, ai_sm, Value.category, hk0, hk1, lits, litb, litm, litm2, List.getElem?_cons_zero, List.getElem?_cons_succ, or_n0, bit_r, fi0, fi1, fi2, fi3, nI_toInt, nI_add, pk_mul, nI_leI, nI_ltI, nI_eq, pk_sub, ib_nI, nI_clamp, va_up_self, va_up_ne, va_up_up, va_up_comm, pk_us, pk_un, upd_up, updL_up, pk_uLs, pk_uLn, b01_1, b01_0, b01_1s, b01_0s, or_b, lstR, show z.length ≤ z.length - 1 + 1 by omega]
  | succ r ih =>
    intro i acc hi
    have e1 := RW_at hw i (by omega)
    have e2 := RW_at hw (i + 1) (by omega)
    have z1 := hz _ (zr_mem (z := z) (i := i) (by omega))
    have z2 := hz _ (zr_mem (z := z) (i := i + 1) (by omega))
    rw [w92_21]
    simp (disch := omega) [w92_1, x92_2_61, w92_5, w92_6, w92_7, w92_8, w92_9, x92_10_61, w92_13, w92_14, x92_15_61, w92_18, w92_19, w92_20, w92_22, w92_23, w92_24, w92_25, w92_28, w92_29, w92_30, x92_31_61, w92_34, w92_35, w92_36, x92_37_61, w92_40, w92_41, w92_42, w92_43, x92_44_61, w92_47, w92_50, w92_51, w92_54, w92_58, w92_60, w92_61, w92_64, w92_65, w92_66, w92_67, w92_68, w92_71, x92_72_61, w92_75, w92_76, w92_77, w92_78, w92_79, w92_82, x92_83_61, w92_86, w92_87, w92_88, w92_90, x92_91_61, w92_94, x92_95_61, w92_98, w92_99, w92_100, w92_102, w92_103, w92_105, w92_106, w92_107, w92_108, w92_109, w92_110, w92_111, w92_114, w92_117, w92_118, x92_119_61, w92_122, w92_123, w92_124, w92_125, x92_126_61, w92_129, rt92, ow92, pl3_92, aw_st, ai_cls, ai_len, ai_p, ai_sw, ai_m, ai_c, ai_at, ai_isI, ai_isJ, ai_isA, ai_ld, ai_1i, ai_2i, ai_2l, ai_cn, ai_j, ai_set, ai_set2, ai_nl, ai_rs, ai_sm, Value.category, hk0, hk1, lits, litb, litm, litm2, List.getElem?_cons_zero, List.getElem?_cons_succ, or_n0, bit_r, fi0, fi1, fi2, fi3, nI_toInt, nI_add, pk_mul, nI_leI, nI_ltI, nI_eq, pk_sub, ib_nI, nI_clamp, va_up_self, va_up_ne, va_up_up, va_up_comm, pk_us, pk_un, upd_up, updL_up, pk_uLs, pk_uLn, b01_1, b01_0, b01_1s, b01_0s, or_b, mm62, mu62, mm63, mu63, mm64, mu64, mm65, mu65, mm66, mu66, mm67, mu67, mm68, mu68, mm69, mu69, hf, hg, e1, e2, note_61, minI_h, show ¬ z.length ≤ i + 1 by omega]
    rw [ih (i + 1) _ (by omega)]
    rfl
set_option maxHeartbeats 4000000 in
theorem rowSub_61 {X : mX} {g : Nat → Int32} {z : List Nat} {v : Int32} (hg : X 69 = g) (hw : RW g z) (hz : ∀ q ∈ z, q < 8) (hl : z.length ≤ 8) : ∀ (r i : Nat) (f : Nat → Int32) (z4 : Option Value), i + r = z.length → aw ET G (d + 1) 92 59 [some (.ref 61), some (.int (nI z.length)), some (.int v), some (.int (nI i)), z4] [] 231 sl (mem (va_up X 66 f) Y) Q = Q [] 231 sl (mem (va_up (va_up X 61 (upd (X 61) 12 (X 61 12 + v * nI z.length))) 66 (subR z v i r f)) Y) := by
  intro r
  induction r with
  | zero =>
    intro i f z4 hi
    have : i = z.length := by omega
    subst this
    simp (disch := omega) [w92_59, w92_60, w92_61, w92_117, w92_118, x92_119_61, w92_122, w92_123, w92_124, w92_125, x92_126_61, w92_129, rt92, aw_st, ai_cls, ai_len, ai_p, ai_sw, ai_m, ai_c, ai_at, ai_isI, ai_isJ, ai_isA, ai_ld, ai_1i, ai_2i, ai_2l, ai_cn, ai_j, ai_set, ai_set2, ai_nl, ai_rs, ai_sm, Value.category, hk0, hk1, lits, litb, litm, litm2, List.getElem?_cons_zero, List.getElem?_cons_succ, or_n0, bit_r, fi0, fi1, fi2, fi3, nI_toInt, nI_add, pk_mul, nI_leI, nI_ltI, nI_eq, pk_sub, ib_nI, nI_clamp, va_up_self, va_up_ne, va_up_up, va_up_comm, pk_us, pk_un, upd_up, updL_up, pk_uLs, pk_uLn, b01_1, b01_0, b01_1s, b01_0s, or_b, subR]
  | succ r ih =>
    intro i f z4 hi
    have e1 := RW_at hw i (by omega)
    have e0 := RW_at hw 0 (by omega)
    have z1 := hz _ (zr_mem (z := z) (i := i) (by omega))
    have z0 := hz _ (zr_mem (z := z) (i := 0) (by omega))
    rw [w92_59]
    by_cases hn : i + 1 < z.length
    · have e2 := RW_at hw (i + 1) (by omega)
      have z2 := hz _ (zr_mem (z := z) (i := i + 1) (by omega))
      have hx : nxt z.length i = i + 1 := if_pos hn
      simp (disch := omega) [w92_1, x92_2_61, w92_5, w92_6, w92_7, w92_8, w92_9, x92_10_61, w92_13, w92_14, x92_15_61, w92_18, w92_19, w92_20, w92_22, w92_23, w92_24, w92_25, w92_28, w92_29, w92_30, x92_31_61, w92_34, w92_35, w92_36, x92_37_61, w92_40, w92_41, w92_42, w92_43, x92_44_61, w92_47, w92_50, w92_51, w92_54, w92_58, w92_60, w92_61, w92_64, w92_65, w92_66, w92_67, w92_68, w92_71, x92_72_61, w92_75, w92_76, w92_77, w92_78, w92_79, w92_82, x92_83_61, w92_86, w92_87, w92_88, w92_90, x92_91_61, w92_94, x92_95_61, w92_98, w92_99, w92_100, w92_102, w92_103, w92_105, w92_106, w92_107, w92_108, w92_109, w92_110, w92_111, w92_114, w92_118, x92_119_61, w92_122, w92_123, w92_124, w92_125, x92_126_61, w92_129, rt92, ow92, pl3_92, aw_st, ai_cls, ai_len, ai_p, ai_sw, ai_m, ai_c, ai_at, ai_isI, ai_isJ, ai_isA, ai_ld, ai_1i, ai_2i, ai_2l, ai_cn, ai_j, ai_set, ai_set2, ai_nl, ai_rs, ai_sm, Value.category, hk0, hk1, lits, litb, litm, litm2, List.getElem?_cons_zero, List.getElem?_cons_succ, or_n0, bit_r, fi0, fi1, fi2, fi3, nI_toInt, nI_add, pk_mul, nI_leI, nI_ltI, nI_eq, pk_sub, ib_nI, nI_clamp, va_up_self, va_up_ne, va_up_up, va_up_comm, pk_us, pk_un, upd_up, updL_up, pk_uLs, pk_uLn, b01_1, b01_0, b01_1s, b01_0s, or_b, mm62, mu62, mm63, mu63, mm64, mu64, mm65, mu65, mm66, mu66, mm67, mu67, mm68, mu68, mm69, mu69, hg, e1, e2, show ¬ z.length ≤ i by omega, show ¬ z.length ≤ i + 1 by omega]
      rw [ih (i + 1) _ _ (by omega)]
      simp only [subR, hx, Nat.mul_comm 8]
    · have hx : nxt z.length i = 0 := if_neg hn
      simp (disch := omega) [w92_1, x92_2_61, w92_5, w92_6, w92_7, w92_8, w92_9, x92_10_61, w92_13, w92_14, x92_15_61, w92_18, w92_19, w92_20, w92_22, w92_23, w92_24, w92_25, w92_28, w92_29, w92_30, x92_31_61, w92_34, w92_35, w92_36, x92_37_61, w92_40, w92_41, w92_42, w92_43, x92_44_61, w92_47, w92_50, w92_51, w92_54, w92_58, w92_60, w92_61, w92_64, w92_65, w92_66, w92_67, w92_68, w92_71, x92_72_61, w92_75, w92_76, w92_77, w92_78, w92_79, w92_82, x92_83_61, w92_86, w92_87, w92_88, w92_90, x92_91_61, w92_94, x92_95_61, w92_98, w92_99, w92_100, w92_102, w92_103, w92_105, w92_106, w92_107, w92_108, w92_109, w92_110, w92_111, w92_114, w92_118, x92_119_61, w92_122, w92_123, w92_124, w92_125, x92_126_61, w92_129, rt92, ow92, pl3_92, aw_st, ai_cls, ai_len, ai_p, ai_sw, ai_m, ai_c, ai_at, ai_isI, ai_isJ, ai_isA, ai_ld, ai_1i, ai_2i, ai_2l, ai_cn, ai_j, ai_set, ai_set2, ai_nl, ai_rs, ai_sm, Value.category, hk0, hk1, lits, litb, litm, litm2, List.getElem?_cons_zero, List.getElem?_cons_succ, or_n0, bit_r, fi0, fi1, fi2, fi3, nI_toInt, nI_add, pk_mul, nI_leI, nI_ltI, nI_eq, pk_sub, ib_nI, nI_clamp, va_up_self, va_up_ne, va_up_up, va_up_comm, pk_us, pk_un, upd_up, updL_up, pk_uLs, pk_uLn, b01_1, b01_0, b01_1s, b01_0s, or_b, mm62, mu62, mm63, mu63, mm64, mu64, mm65, mu65, mm66, mu66, mm67, mu67, mm68, mu68, mm69, mu69, hg, e1, e0, show ¬ z.length ≤ i by omega, show z.length ≤ i + 1 by omega]
      rw [ih (i + 1) _ _ (by omega)]
      simp only [subR, hx, Nat.mul_comm 8]
theorem strikeRow_61 {X : mX} {f g : Nat → Int32} {z : List Nat} (hf : X 66 = f) (hg : X 69 = g) (hw : RW g z) (hz : ∀ q ∈ z, q < 8) (h3 : 3 ≤ z.length) (hl : z.length ≤ 8) : aw ET G (d + 1) 92 0 [some (.ref 61), some (.int (nI z.length)), none, none, none] [] 231 sl (mem X Y) Q = Q [] 231 sl (mem (va_up (va_up X 61 (upd (X 61) 12 (X 61 12 + lstZ f z * nI z.length))) 66 (strF f z)) Y) := by
  have e1 := RW_at hw (z.length - 1) (by omega)
  have e0 := RW_at hw 0 (by omega)
  have z1 := hz _ (zr_mem (z := z) (i := z.length - 1) (by omega))
  have z0 := hz _ (zr_mem (z := z) (i := 0) (by omega))
  have hm := rowMin_61 (G := G) (d := d) (sl := sl) (Q := Q) (Y := Y) hf hg hw hz hl (z4 := none) (z.length - 1) 0 (f (zr z (z.length - 1) * 8 + zr z 0)) (by omega)
  have hsb := rowSub_61 (G := G) (d := d) (sl := sl) (Q := Q) (Y := Y) (v := lstZ f z) hg hw hz hl z.length 0 f none (by omega)
  rw [← hf, va_id] at hsb
  simp (disch := omega) [w92_0, w92_1, x92_2_61, w92_5, w92_6, w92_7, w92_8, w92_9, x92_10_61, w92_13, w92_14, x92_15_61, w92_18, w92_19, w92_20, w92_22, w92_23, w92_24, w92_25, w92_28, w92_29, w92_30, x92_31_61, w92_34, w92_35, w92_36, x92_37_61, w92_40, w92_41, w92_42, w92_43, x92_44_61, w92_47, w92_50, w92_51, w92_54, w92_58, w92_60, w92_61, w92_64, w92_65, w92_66, w92_67, w92_68, w92_71, x92_72_61, w92_75, w92_76, w92_77, w92_78, w92_79, w92_82, x92_83_61, w92_86, w92_87, w92_88, w92_90, x92_91_61, w92_94, x92_95_61, w92_98, w92_99, w92_100, w92_102, w92_103, w92_105, w92_106, w92_107, w92_108, w92_109, w92_110, w92_111, w92_114, w92_118, x92_119_61, w92_122, w92_123, w92_124, w92_125, x92_126_61, w92_129, rt92, ow92, pl3_92, aw_st, ai_cls, ai_len, ai_p, ai_sw, ai_m, ai_c, ai_at, ai_isI, ai_isJ, ai_isA, ai_ld, ai_1i, ai_2i, ai_2l, ai_cn, ai_j, ai_set, ai_set2, ai_nl, ai_rs, ai_sm, Value.category, hk0, hk1, lits, litb, litm, litm2, List.getElem?_cons_zero, List.getElem?_cons_succ, or_n0, bit_r, fi0, fi1, fi2, fi3, nI_toInt, nI_add, pk_mul, nI_leI, nI_ltI, nI_eq, pk_sub, ib_nI, nI_clamp, va_up_self, va_up_ne, va_up_up, va_up_comm, pk_us, pk_un, upd_up, updL_up, pk_uLs, pk_uLn, b01_1, b01_0, b01_1s, b01_0s, or_b, mm62, mu62, mm63, mu63, mm64, mu64, mm65, mu65, mm66, mu66, mm67, mu67, mm68, mu68, mm69, mu69, hf, hg, e1, e0, note_61]
  rw [hm]
  simp (disch := omega) [w92_57, w92_58, aw_st, ai_cls, ai_len, ai_p, ai_sw, ai_m, ai_c, ai_at, ai_isI, ai_isJ, ai_isA, ai_ld, ai_1i, ai_2i, ai_2l, ai_cn, ai_j, ai_set, ai_set2, ai_nl, ai_rs, ai_sm, Value.category, hk0, hk1, lits, litb, litm, litm2, List.getElem?_cons_zero, List.getElem?_cons_succ, or_n0, bit_r, fi0, fi1, fi2, fi3, nI_toInt, nI_add, pk_mul, nI_leI, nI_ltI, nI_eq, pk_sub, ib_nI, nI_clamp, va_up_self, va_up_ne, va_up_up, va_up_comm, pk_us, pk_un, upd_up, updL_up, pk_uLs, pk_uLn, b01_1, b01_0, b01_1s, b01_0s, or_b]
  simp only [hf] at hsb
  exact Iff.of_eq hsb
set_option maxHeartbeats 4000000 in
theorem strikeRings_loop_61 {X : mX} (hP : P ≤ 8) (kP : X 47 7 = nI P) : ∀ (r i : Nat) (f g : Nat → Int32) (h : Int32) (z2 : Option Value), i + r = 64 → (∀ g', Q [.int (nI (strk P r f h i).2.2)] 231 sl (mem (va_up (va_up (va_up X 61 (upd (X 61) 12 (strk P r f h i).2.1)) 66 (strk P r f h i).1) 69 g') Y)) → aw ET G (d + 10) 89 2 [some (.ref 61), some (.int (nI i)), z2] [] 231 sl (mem (va_up (va_up (va_up X 61 (upd (X 61) 12 h)) 66 f) 69 g) Y) Q := by
  intro r
  induction r with
  | zero =>
    intro i f g h z2 hi hQ
    have : i = 64 := by omega
    subst this
    have := hQ g
    simp (disch := omega) [w89_2, w89_3, w89_5, w89_30, w89_32, rt89, aw_st, ai_cls, ai_len, ai_p, ai_sw, ai_m, ai_c, ai_at, ai_isI, ai_isJ, ai_isA, ai_ld, ai_1i, ai_2i, ai_2l, ai_cn, ai_j, ai_set, ai_set2, ai_nl, ai_rs, ai_sm, Value.category, hk0, hk1, lits, litb, litm, litm2, List.getElem?_cons_zero, List.getElem?_cons_succ, or_n0, bit_r, fi0, fi1, fi2, fi3, nI_toInt, nI_add, pk_mul, nI_leI, nI_ltI, nI_eq, pk_sub, ib_nI, nI_clamp, va_up_self, va_up_ne, va_up_up, va_up_comm, pk_us, pk_un, upd_up, updL_up, pk_uLs, pk_uLn, b01_1, b01_0, b01_1s, b01_0s, or_b]
    exact this
  | succ r ih =>
    intro i f g h z2 hi hQ
    rw [w89_2]
    simp (disch := omega) [w89_3, w89_5, w89_8, x89_9_61, aw_st, ai_cls, ai_len, ai_p, ai_sw, ai_m, ai_c, ai_at, ai_isI, ai_isJ, ai_isA, ai_ld, ai_1i, ai_2i, ai_2l, ai_cn, ai_j, ai_set, ai_set2, ai_nl, ai_rs, ai_sm, Value.category, hk0, hk1, lits, litb, litm, litm2, List.getElem?_cons_zero, List.getElem?_cons_succ, or_n0, bit_r, fi0, fi1, fi2, fi3, nI_toInt, nI_add, pk_mul, nI_leI, nI_ltI, nI_eq, pk_sub, ib_nI, nI_clamp, va_up_self, va_up_ne, va_up_up, va_up_comm, pk_us, pk_un, upd_up, updL_up, pk_uLs, pk_uLn, b01_1, b01_0, b01_1s, b01_0s, or_b, show ¬ 64 ≤ i by omega]
    refine findRing_61 (P := P) (f := f) (X := va_up (va_up X 61 (upd (X 61) 12 h)) 66 f) hP kP (va_up_self _ _ _) ?_
    intro g' hw
    cases hr : ringS f P with
    | none =>
      have := hQ g'
      unfold strk at this
      rw [hr] at this
      simp (disch := omega) [w89_12, w89_13, w89_14, w89_17, w89_18, rt89, aw_st, ai_cls, ai_len, ai_p, ai_sw, ai_m, ai_c, ai_at, ai_isI, ai_isJ, ai_isA, ai_ld, ai_1i, ai_2i, ai_2l, ai_cn, ai_j, ai_set, ai_set2, ai_nl, ai_rs, ai_sm, Value.category, hk0, hk1, lits, litb, litm, litm2, List.getElem?_cons_zero, List.getElem?_cons_succ, or_n0, bit_r, fi0, fi1, fi2, fi3, nI_toInt, nI_add, pk_mul, nI_leI, nI_ltI, nI_eq, pk_sub, ib_nI, nI_clamp, va_up_self, va_up_ne, va_up_up, va_up_comm, pk_us, pk_un, upd_up, updL_up, pk_uLs, pk_uLn, b01_1, b01_0, b01_1s, b01_0s, or_b, rlen]
      exact this
    | some z =>
      obtain ⟨z3, zl, znd, zP, -, -⟩ := ringS_ok hr
      simp (disch := omega) [w89_12, w89_13, w89_14, w89_19, w89_20, x89_21_61, rt89, aw_st, ai_cls, ai_len, ai_p, ai_sw, ai_m, ai_c, ai_at, ai_isI, ai_isJ, ai_isA, ai_ld, ai_1i, ai_2i, ai_2l, ai_cn, ai_j, ai_set, ai_set2, ai_nl, ai_rs, ai_sm, Value.category, hk0, hk1, lits, litb, litm, litm2, List.getElem?_cons_zero, List.getElem?_cons_succ, or_n0, bit_r, fi0, fi1, fi2, fi3, nI_toInt, nI_add, pk_mul, nI_leI, nI_ltI, nI_eq, pk_sub, ib_nI, nI_clamp, va_up_self, va_up_ne, va_up_up, va_up_comm, pk_us, pk_un, upd_up, updL_up, pk_uLs, pk_uLn, b01_1, b01_0, b01_1s, b01_0s, or_b, rlen, show ¬ z.length = 0 by omega]
      rw [strikeRow_61 (f := f) (g := g') (z := z) (by simp [va_up]) (va_up_self _ _ _) (hw z hr) (fun q hq => by have := zP q hq; omega) z3 (by omega)]
      simp (disch := omega) [w89_24, w89_27, aw_st, ai_cls, ai_len, ai_p, ai_sw, ai_m, ai_c, ai_at, ai_isI, ai_isJ, ai_isA, ai_ld, ai_1i, ai_2i, ai_2l, ai_cn, ai_j, ai_set, ai_set2, ai_nl, ai_rs, ai_sm, Value.category, hk0, hk1, lits, litb, litm, litm2, List.getElem?_cons_zero, List.getElem?_cons_succ, or_n0, bit_r, fi0, fi1, fi2, fi3, nI_toInt, nI_add, pk_mul, nI_leI, nI_ltI, nI_eq, pk_sub, ib_nI, nI_clamp, va_up_self, va_up_ne, va_up_up, va_up_comm, pk_us, pk_un, upd_up, updL_up, pk_uLs, pk_uLn, b01_1, b01_0, b01_1s, b01_0s, or_b]
      refine ih (i + 1) (strF f z) g' (h + lstZ f z * nI z.length) _ (by omega) ?_
      intro g2
      have := hQ g2
      unfold strk at this
      rw [hr] at this
      exact this
theorem strikeRings_61 {X : mX} (hP : P ≤ 8) (kP : X 47 7 = nI P) (hQ : ∀ g', Q [.int (nI (strk P 64 (X 66) (X 61 12) 0).2.2)] 231 sl (mem (va_up (va_up (va_up X 61 (upd (X 61) 12 (strk P 64 (X 66) (X 61 12) 0).2.1)) 66 (strk P 64 (X 66) (X 61 12) 0).1) 69 g') Y)) : aw ET G (d + 10) 89 0 [some (.ref 61), none, none] [] 231 sl (mem X Y) Q := by
  have := strikeRings_loop_61 (G := G) (d := d) (sl := sl) (Q := Q) (Y := Y) (X := X) hP kP 64 0 (X 66) (X 69) (X 61 12) none (by omega) hQ
  have e : va_up (va_up (va_up X 61 (upd (X 61) 12 (X 61 12))) 66 (X 66)) 69 (X 69) = X := by
    funext j
    simp only [va_up]
    by_cases h1 : j = 69
    · simp [h1]
    · by_cases h2 : j = 66
      · simp [h2]
      · by_cases h3 : j = 61
        · subst h3; simp; funext i; simp only [upd]; split <;> simp_all
        · simp [h1, h2, h3]
  rw [e] at this
  simp (disch := omega) [w89_0, w89_1, aw_st, ai_cls, ai_len, ai_p, ai_sw, ai_m, ai_c, ai_at, ai_isI, ai_isJ, ai_isA, ai_ld, ai_1i, ai_2i, ai_2l, ai_cn, ai_j, ai_set, ai_set2, ai_nl, ai_rs, ai_sm, Value.category, hk0, hk1, lits, litb, litm, litm2, List.getElem?_cons_zero, List.getElem?_cons_succ, or_n0, bit_r, fi0, fi1, fi2, fi3, nI_toInt, nI_add, pk_mul, nI_leI, nI_ltI, nI_eq, pk_sub, ib_nI, nI_clamp, va_up_self, va_up_ne, va_up_up, va_up_comm, pk_us, pk_un, upd_up, updL_up, pk_uLs, pk_uLn, b01_1, b01_0, b01_1s, b01_0s, or_b]
  exact this
set_option maxHeartbeats 4000000 in
theorem rowMin_70 {X : mX} {f g : Nat → Int32} {z : List Nat} (hf : X 75 = f) (hg : X 78 = g) (hw : RW g z) (hz : ∀ q ∈ z, q < 8) (hl : z.length ≤ 8) {z4 : Option Value} : ∀ (r i : Nat) (acc : Int32), i + r + 1 = z.length → aw ET G (d + 1) 92 21 [some (.ref 70), some (.int (nI z.length)), some (.int acc), some (.int (nI i)), z4] [] 231 sl (mem X Y) Q = aw ET G (d + 1) 92 57 [some (.ref 70), some (.int (nI z.length)), some (.int (lstR f z i r acc)), some (.int (nI (z.length - 1))), z4] [] 231 sl (mem X Y) Q := by
  intro r
  induction r with
  | zero =>
    intro i acc hi
    have : i = z.length - 1 := by omega
    subst this
    simp (disch := omega) [w92_21, w92_22, w92_23, w92_24, w92_25, aw_st, ai_cls, ai_len, ai_p, ai_sw, ai_m, ai_c, ai_at, ai_isI, ai_isJ, ai_isA, ai_ld, ai_1i, ai_2i, ai_2l, ai_cn, ai_j, ai_set, ai_set2, ai_nl, ai_rs, ai_sm, Value.category, hk0, hk1, lits, litb, litm, litm2, List.getElem?_cons_zero, List.getElem?_cons_succ, or_n0, bit_r, fi0, fi1, fi2, fi3, nI_toInt, nI_add, pk_mul, nI_leI, nI_ltI, nI_eq, pk_sub, ib_nI, nI_clamp, va_up_self, va_up_ne, va_up_up, va_up_comm, pk_us, pk_un, upd_up, updL_up, pk_uLs, pk_uLn, b01_1, b01_0, b01_1s, b01_0s, or_b, lstR, show z.length ≤ z.length - 1 + 1 by omega]
  | succ r ih =>
    intro i acc hi
    have e1 := RW_at hw i (by omega)
    have e2 := RW_at hw (i + 1) (by omega)
    have z1 := hz _ (zr_mem (z := z) (i := i) (by omega))
    have z2 := hz _ (zr_mem (z := z) (i := i + 1) (by omega))
    rw [w92_21]
    simp (disch := omega) [w92_1, x92_2_70, w92_5, w92_6, w92_7, w92_8, w92_9, x92_10_70, w92_13, w92_14, x92_15_70, w92_18, w92_19, w92_20, w92_22, w92_23, w92_24, w92_25, w92_28, w92_29, w92_30, x92_31_70, w92_34, w92_35, w92_36, x92_37_70, w92_40, w92_41, w92_42, w92_43, x92_44_70, w92_47, w92_50, w92_51, w92_54, w92_58, w92_60, w92_61, w92_64, w92_65, w92_66, w92_67, w92_68, w92_71, x92_72_70, w92_75, w92_76, w92_77, w92_78, w92_79, w92_82, x92_83_70, w92_86, w92_87, w92_88, w92_90, x92_91_70, w92_94, x92_95_70, w92_98, w92_99, w92_100, w92_102, w92_103, w92_105, w92_106, w92_107, w92_108, w92_109, w92_110, w92_111, w92_114, w92_117, w92_118, x92_119_70, w92_122, w92_123, w92_124, w92_125, x92_126_70, w92_129, rt92, ow92, pl3_92, aw_st, ai_cls, ai_len, ai_p, ai_sw, ai_m, ai_c, ai_at, ai_isI, ai_isJ, ai_isA, ai_ld, ai_1i, ai_2i, ai_2l, ai_cn, ai_j, ai_set, ai_set2, ai_nl, ai_rs, ai_sm, Value.category, hk0, hk1, lits, litb, litm, litm2, List.getElem?_cons_zero, List.getElem?_cons_succ, or_n0, bit_r, fi0, fi1, fi2, fi3, nI_toInt, nI_add, pk_mul, nI_leI, nI_ltI, nI_eq, pk_sub, ib_nI, nI_clamp, va_up_self, va_up_ne, va_up_up, va_up_comm, pk_us, pk_un, upd_up, updL_up, pk_uLs, pk_uLn, b01_1, b01_0, b01_1s, b01_0s, or_b, mm71, mu71, mm72, mu72, mm73, mu73, mm74, mu74, mm75, mu75, mm76, mu76, mm77, mu77, mm78, mu78, hf, hg, e1, e2, note_70, minI_h, show ¬ z.length ≤ i + 1 by omega]
    rw [ih (i + 1) _ (by omega)]
    rfl
set_option maxHeartbeats 4000000 in
theorem rowSub_70 {X : mX} {g : Nat → Int32} {z : List Nat} {v : Int32} (hg : X 78 = g) (hw : RW g z) (hz : ∀ q ∈ z, q < 8) (hl : z.length ≤ 8) : ∀ (r i : Nat) (f : Nat → Int32) (z4 : Option Value), i + r = z.length → aw ET G (d + 1) 92 59 [some (.ref 70), some (.int (nI z.length)), some (.int v), some (.int (nI i)), z4] [] 231 sl (mem (va_up X 75 f) Y) Q = Q [] 231 sl (mem (va_up (va_up X 70 (upd (X 70) 12 (X 70 12 + v * nI z.length))) 75 (subR z v i r f)) Y) := by
  intro r
  induction r with
  | zero =>
    intro i f z4 hi
    have : i = z.length := by omega
    subst this
    simp (disch := omega) [w92_59, w92_60, w92_61, w92_117, w92_118, x92_119_70, w92_122, w92_123, w92_124, w92_125, x92_126_70, w92_129, rt92, aw_st, ai_cls, ai_len, ai_p, ai_sw, ai_m, ai_c, ai_at, ai_isI, ai_isJ, ai_isA, ai_ld, ai_1i, ai_2i, ai_2l, ai_cn, ai_j, ai_set, ai_set2, ai_nl, ai_rs, ai_sm, Value.category, hk0, hk1, lits, litb, litm, litm2, List.getElem?_cons_zero, List.getElem?_cons_succ, or_n0, bit_r, fi0, fi1, fi2, fi3, nI_toInt, nI_add, pk_mul, nI_leI, nI_ltI, nI_eq, pk_sub, ib_nI, nI_clamp, va_up_self, va_up_ne, va_up_up, va_up_comm, pk_us, pk_un, upd_up, updL_up, pk_uLs, pk_uLn, b01_1, b01_0, b01_1s, b01_0s, or_b, subR]
  | succ r ih =>
    intro i f z4 hi
    have e1 := RW_at hw i (by omega)
    have e0 := RW_at hw 0 (by omega)
    have z1 := hz _ (zr_mem (z := z) (i := i) (by omega))
    have z0 := hz _ (zr_mem (z := z) (i := 0) (by omega))
    rw [w92_59]
    by_cases hn : i + 1 < z.length
    · have e2 := RW_at hw (i + 1) (by omega)
      have z2 := hz _ (zr_mem (z := z) (i := i + 1) (by omega))
      have hx : nxt z.length i = i + 1 := if_pos hn
      simp (disch := omega) [w92_1, x92_2_70, w92_5, w92_6, w92_7, w92_8, w92_9, x92_10_70, w92_13, w92_14, x92_15_70, w92_18, w92_19, w92_20, w92_22, w92_23, w92_24, w92_25, w92_28, w92_29, w92_30, x92_31_70, w92_34, w92_35, w92_36, x92_37_70, w92_40, w92_41, w92_42, w92_43, x92_44_70, w92_47, w92_50, w92_51, w92_54, w92_58, w92_60, w92_61, w92_64, w92_65, w92_66, w92_67, w92_68, w92_71, x92_72_70, w92_75, w92_76, w92_77, w92_78, w92_79, w92_82, x92_83_70, w92_86, w92_87, w92_88, w92_90, x92_91_70, w92_94, x92_95_70, w92_98, w92_99, w92_100, w92_102, w92_103, w92_105, w92_106, w92_107, w92_108, w92_109, w92_110, w92_111, w92_114, w92_118, x92_119_70, w92_122, w92_123, w92_124, w92_125, x92_126_70, w92_129, rt92, ow92, pl3_92, aw_st, ai_cls, ai_len, ai_p, ai_sw, ai_m, ai_c, ai_at, ai_isI, ai_isJ, ai_isA, ai_ld, ai_1i, ai_2i, ai_2l, ai_cn, ai_j, ai_set, ai_set2, ai_nl, ai_rs, ai_sm, Value.category, hk0, hk1, lits, litb, litm, litm2, List.getElem?_cons_zero, List.getElem?_cons_succ, or_n0, bit_r, fi0, fi1, fi2, fi3, nI_toInt, nI_add, pk_mul, nI_leI, nI_ltI, nI_eq, pk_sub, ib_nI, nI_clamp, va_up_self, va_up_ne, va_up_up, va_up_comm, pk_us, pk_un, upd_up, updL_up, pk_uLs, pk_uLn, b01_1, b01_0, b01_1s, b01_0s, or_b, mm71, mu71, mm72, mu72, mm73, mu73, mm74, mu74, mm75, mu75, mm76, mu76, mm77, mu77, mm78, mu78, hg, e1, e2, show ¬ z.length ≤ i by omega, show ¬ z.length ≤ i + 1 by omega]
      rw [ih (i + 1) _ _ (by omega)]
      simp only [subR, hx, Nat.mul_comm 8]
    · have hx : nxt z.length i = 0 := if_neg hn
      simp (disch := omega) [w92_1, x92_2_70, w92_5, w92_6, w92_7, w92_8, w92_9, x92_10_70, w92_13, w92_14, x92_15_70, w92_18, w92_19, w92_20, w92_22, w92_23, w92_24, w92_25, w92_28, w92_29, w92_30, x92_31_70, w92_34, w92_35, w92_36, x92_37_70, w92_40, w92_41, w92_42, w92_43, x92_44_70, w92_47, w92_50, w92_51, w92_54, w92_58, w92_60, w92_61, w92_64, w92_65, w92_66, w92_67, w92_68, w92_71, x92_72_70, w92_75, w92_76, w92_77, w92_78, w92_79, w92_82, x92_83_70, w92_86, w92_87, w92_88, w92_90, x92_91_70, w92_94, x92_95_70, w92_98, w92_99, w92_100, w92_102, w92_103, w92_105, w92_106, w92_107, w92_108, w92_109, w92_110, w92_111, w92_114, w92_118, x92_119_70, w92_122, w92_123, w92_124, w92_125, x92_126_70, w92_129, rt92, ow92, pl3_92, aw_st, ai_cls, ai_len, ai_p, ai_sw, ai_m, ai_c, ai_at, ai_isI, ai_isJ, ai_isA, ai_ld, ai_1i, ai_2i, ai_2l, ai_cn, ai_j, ai_set, ai_set2, ai_nl, ai_rs, ai_sm, Value.category, hk0, hk1, lits, litb, litm, litm2, List.getElem?_cons_zero, List.getElem?_cons_succ, or_n0, bit_r, fi0, fi1, fi2, fi3, nI_toInt, nI_add, pk_mul, nI_leI, nI_ltI, nI_eq, pk_sub, ib_nI, nI_clamp, va_up_self, va_up_ne, va_up_up, va_up_comm, pk_us, pk_un, upd_up, updL_up, pk_uLs, pk_uLn, b01_1, b01_0, b01_1s, b01_0s, or_b, mm71, mu71, mm72, mu72, mm73, mu73, mm74, mu74, mm75, mu75, mm76, mu76, mm77, mu77, mm78, mu78, hg, e1, e0, show ¬ z.length ≤ i by omega, show z.length ≤ i + 1 by omega]
      rw [ih (i + 1) _ _ (by omega)]
      simp only [subR, hx, Nat.mul_comm 8]
theorem strikeRow_70 {X : mX} {f g : Nat → Int32} {z : List Nat} (hf : X 75 = f) (hg : X 78 = g) (hw : RW g z) (hz : ∀ q ∈ z, q < 8) (h3 : 3 ≤ z.length) (hl : z.length ≤ 8) : aw ET G (d + 1) 92 0 [some (.ref 70), some (.int (nI z.length)), none, none, none] [] 231 sl (mem X Y) Q = Q [] 231 sl (mem (va_up (va_up X 70 (upd (X 70) 12 (X 70 12 + lstZ f z * nI z.length))) 75 (strF f z)) Y) := by
  have e1 := RW_at hw (z.length - 1) (by omega)
  have e0 := RW_at hw 0 (by omega)
  have z1 := hz _ (zr_mem (z := z) (i := z.length - 1) (by omega))
  have z0 := hz _ (zr_mem (z := z) (i := 0) (by omega))
  have hm := rowMin_70 (G := G) (d := d) (sl := sl) (Q := Q) (Y := Y) hf hg hw hz hl (z4 := none) (z.length - 1) 0 (f (zr z (z.length - 1) * 8 + zr z 0)) (by omega)
  have hsb := rowSub_70 (G := G) (d := d) (sl := sl) (Q := Q) (Y := Y) (v := lstZ f z) hg hw hz hl z.length 0 f none (by omega)
  rw [← hf, va_id] at hsb
  simp (disch := omega) [w92_0, w92_1, x92_2_70, w92_5, w92_6, w92_7, w92_8, w92_9, x92_10_70, w92_13, w92_14, x92_15_70, w92_18, w92_19, w92_20, w92_22, w92_23, w92_24, w92_25, w92_28, w92_29, w92_30, x92_31_70, w92_34, w92_35, w92_36, x92_37_70, w92_40, w92_41, w92_42, w92_43, x92_44_70, w92_47, w92_50, w92_51, w92_54, w92_58, w92_60, w92_61, w92_64, w92_65, w92_66, w92_67, w92_68, w92_71, x92_72_70, w92_75, w92_76, w92_77, w92_78, w92_79, w92_82, x92_83_70, w92_86, w92_87, w92_88, w92_90, x92_91_70, w92_94, x92_95_70, w92_98, w92_99, w92_100, w92_102, w92_103, w92_105, w92_106, w92_107, w92_108, w92_109, w92_110, w92_111, w92_114, w92_118, x92_119_70, w92_122, w92_123, w92_124, w92_125, x92_126_70, w92_129, rt92, ow92, pl3_92, aw_st, ai_cls, ai_len, ai_p, ai_sw, ai_m, ai_c, ai_at, ai_isI, ai_isJ, ai_isA, ai_ld, ai_1i, ai_2i, ai_2l, ai_cn, ai_j, ai_set, ai_set2, ai_nl, ai_rs, ai_sm, Value.category, hk0, hk1, lits, litb, litm, litm2, List.getElem?_cons_zero, List.getElem?_cons_succ, or_n0, bit_r, fi0, fi1, fi2, fi3, nI_toInt, nI_add, pk_mul, nI_leI, nI_ltI, nI_eq, pk_sub, ib_nI, nI_clamp, va_up_self, va_up_ne, va_up_up, va_up_comm, pk_us, pk_un, upd_up, updL_up, pk_uLs, pk_uLn, b01_1, b01_0, b01_1s, b01_0s, or_b, mm71, mu71, mm72, mu72, mm73, mu73, mm74, mu74, mm75, mu75, mm76, mu76, mm77, mu77, mm78, mu78, hf, hg, e1, e0, note_70]
  rw [hm]
  simp (disch := omega) [w92_57, w92_58, aw_st, ai_cls, ai_len, ai_p, ai_sw, ai_m, ai_c, ai_at, ai_isI, ai_isJ, ai_isA, ai_ld, ai_1i, ai_2i, ai_2l, ai_cn, ai_j, ai_set, ai_set2, ai_nl, ai_rs, ai_sm, Value.category, hk0, hk1, lits, litb, litm, litm2, List.getElem?_cons_zero, List.getElem?_cons_succ, or_n0, bit_r, fi0, fi1, fi2, fi3, nI_toInt, nI_add, pk_mul, nI_leI, nI_ltI, nI_eq, pk_sub, ib_nI, nI_clamp, va_up_self, va_up_ne, va_up_up, va_up_comm, pk_us, pk_un, upd_up, updL_up, pk_uLs, pk_uLn, b01_1, b01_0, b01_1s, b01_0s, or_b]
  simp only [hf] at hsb
  exact Iff.of_eq hsb
set_option maxHeartbeats 4000000 in
theorem strikeRings_loop_70 {X : mX} (hP : P ≤ 8) (kP : X 47 7 = nI P) : ∀ (r i : Nat) (f g : Nat → Int32) (h : Int32) (z2 : Option Value), i + r = 64 → (∀ g', Q [.int (nI (strk P r f h i).2.2)] 231 sl (mem (va_up (va_up (va_up X 70 (upd (X 70) 12 (strk P r f h i).2.1)) 75 (strk P r f h i).1) 78 g') Y)) → aw ET G (d + 10) 89 2 [some (.ref 70), some (.int (nI i)), z2] [] 231 sl (mem (va_up (va_up (va_up X 70 (upd (X 70) 12 h)) 75 f) 78 g) Y) Q := by
  intro r
  induction r with
  | zero =>
    intro i f g h z2 hi hQ
    have : i = 64 := by omega
    subst this
    have := hQ g
    simp (disch := omega) [w89_2, w89_3, w89_5, w89_30, w89_32, rt89, aw_st, ai_cls, ai_len, ai_p, ai_sw, ai_m, ai_c, ai_at, ai_isI, ai_isJ, ai_isA, ai_ld, ai_1i, ai_2i, ai_2l, ai_cn, ai_j, ai_set, ai_set2, ai_nl, ai_rs, ai_sm, Value.category, hk0, hk1, lits, litb, litm, litm2, List.getElem?_cons_zero, List.getElem?_cons_succ, or_n0, bit_r, fi0, fi1, fi2, fi3, nI_toInt, nI_add, pk_mul, nI_leI, nI_ltI, nI_eq, pk_sub, ib_nI, nI_clamp, va_up_self, va_up_ne, va_up_up, va_up_comm, pk_us, pk_un, upd_up, updL_up, pk_uLs, pk_uLn, b01_1, b01_0, b01_1s, b01_0s, or_b]
    exact this
  | succ r ih =>
    intro i f g h z2 hi hQ
    rw [w89_2]
    simp (disch := omega) [w89_3, w89_5, w89_8, x89_9_70, aw_st, ai_cls, ai_len, ai_p, ai_sw, ai_m, ai_c, ai_at, ai_isI, ai_isJ, ai_isA, ai_ld, ai_1i, ai_2i, ai_2l, ai_cn, ai_j, ai_set, ai_set2, ai_nl, ai_rs, ai_sm, Value.category, hk0, hk1, lits, litb, litm, litm2, List.getElem?_cons_zero, List.getElem?_cons_succ, or_n0, bit_r, fi0, fi1, fi2, fi3, nI_toInt, nI_add, pk_mul, nI_leI, nI_ltI, nI_eq, pk_sub, ib_nI, nI_clamp, va_up_self, va_up_ne, va_up_up, va_up_comm, pk_us, pk_un, upd_up, updL_up, pk_uLs, pk_uLn, b01_1, b01_0, b01_1s, b01_0s, or_b, show ¬ 64 ≤ i by omega]
    refine findRing_70 (P := P) (f := f) (X := va_up (va_up X 70 (upd (X 70) 12 h)) 75 f) hP kP (va_up_self _ _ _) ?_
    intro g' hw
    cases hr : ringS f P with
    | none =>
      have := hQ g'
      unfold strk at this
      rw [hr] at this
      simp (disch := omega) [w89_12, w89_13, w89_14, w89_17, w89_18, rt89, aw_st, ai_cls, ai_len, ai_p, ai_sw, ai_m, ai_c, ai_at, ai_isI, ai_isJ, ai_isA, ai_ld, ai_1i, ai_2i, ai_2l, ai_cn, ai_j, ai_set, ai_set2, ai_nl, ai_rs, ai_sm, Value.category, hk0, hk1, lits, litb, litm, litm2, List.getElem?_cons_zero, List.getElem?_cons_succ, or_n0, bit_r, fi0, fi1, fi2, fi3, nI_toInt, nI_add, pk_mul, nI_leI, nI_ltI, nI_eq, pk_sub, ib_nI, nI_clamp, va_up_self, va_up_ne, va_up_up, va_up_comm, pk_us, pk_un, upd_up, updL_up, pk_uLs, pk_uLn, b01_1, b01_0, b01_1s, b01_0s, or_b, rlen]
      exact this
    | some z =>
      obtain ⟨z3, zl, znd, zP, -, -⟩ := ringS_ok hr
      simp (disch := omega) [w89_12, w89_13, w89_14, w89_19, w89_20, x89_21_70, rt89, aw_st, ai_cls, ai_len, ai_p, ai_sw, ai_m, ai_c, ai_at, ai_isI, ai_isJ, ai_isA, ai_ld, ai_1i, ai_2i, ai_2l, ai_cn, ai_j, ai_set, ai_set2, ai_nl, ai_rs, ai_sm, Value.category, hk0, hk1, lits, litb, litm, litm2, List.getElem?_cons_zero, List.getElem?_cons_succ, or_n0, bit_r, fi0, fi1, fi2, fi3, nI_toInt, nI_add, pk_mul, nI_leI, nI_ltI, nI_eq, pk_sub, ib_nI, nI_clamp, va_up_self, va_up_ne, va_up_up, va_up_comm, pk_us, pk_un, upd_up, updL_up, pk_uLs, pk_uLn, b01_1, b01_0, b01_1s, b01_0s, or_b, rlen, show ¬ z.length = 0 by omega]
      rw [strikeRow_70 (f := f) (g := g') (z := z) (by simp [va_up]) (va_up_self _ _ _) (hw z hr) (fun q hq => by have := zP q hq; omega) z3 (by omega)]
      simp (disch := omega) [w89_24, w89_27, aw_st, ai_cls, ai_len, ai_p, ai_sw, ai_m, ai_c, ai_at, ai_isI, ai_isJ, ai_isA, ai_ld, ai_1i, ai_2i, ai_2l, ai_cn, ai_j, ai_set, ai_set2, ai_nl, ai_rs, ai_sm, Value.category, hk0, hk1, lits, litb, litm, litm2, List.getElem?_cons_zero, List.getElem?_cons_succ, or_n0, bit_r, fi0, fi1, fi2, fi3, nI_toInt, nI_add, pk_mul, nI_leI, nI_ltI, nI_eq, pk_sub, ib_nI, nI_clamp, va_up_self, va_up_ne, va_up_up, va_up_comm, pk_us, pk_un, upd_up, updL_up, pk_uLs, pk_uLn, b01_1, b01_0, b01_1s, b01_0s, or_b]
      refine ih (i + 1) (strF f z) g' (h + lstZ f z * nI z.length) _ (by omega) ?_
      intro g2
      have := hQ g2
      unfold strk at this
      rw [hr] at this
      exact this
theorem strikeRings_70 {X : mX} (hP : P ≤ 8) (kP : X 47 7 = nI P) (hQ : ∀ g', Q [.int (nI (strk P 64 (X 75) (X 70 12) 0).2.2)] 231 sl (mem (va_up (va_up (va_up X 70 (upd (X 70) 12 (strk P 64 (X 75) (X 70 12) 0).2.1)) 75 (strk P 64 (X 75) (X 70 12) 0).1) 78 g') Y)) : aw ET G (d + 10) 89 0 [some (.ref 70), none, none] [] 231 sl (mem X Y) Q := by
  have := strikeRings_loop_70 (G := G) (d := d) (sl := sl) (Q := Q) (Y := Y) (X := X) hP kP 64 0 (X 75) (X 78) (X 70 12) none (by omega) hQ
  have e : va_up (va_up (va_up X 70 (upd (X 70) 12 (X 70 12))) 75 (X 75)) 78 (X 78) = X := by
    funext j
    simp only [va_up]
    by_cases h1 : j = 78
    · simp [h1]
    · by_cases h2 : j = 75
      · simp [h2]
      · by_cases h3 : j = 70
        · subst h3; simp; funext i; simp only [upd]; split <;> simp_all
        · simp [h1, h2, h3]
  rw [e] at this
  simp (disch := omega) [w89_0, w89_1, aw_st, ai_cls, ai_len, ai_p, ai_sw, ai_m, ai_c, ai_at, ai_isI, ai_isJ, ai_isA, ai_ld, ai_1i, ai_2i, ai_2l, ai_cn, ai_j, ai_set, ai_set2, ai_nl, ai_rs, ai_sm, Value.category, hk0, hk1, lits, litb, litm, litm2, List.getElem?_cons_zero, List.getElem?_cons_succ, or_n0, bit_r, fi0, fi1, fi2, fi3, nI_toInt, nI_add, pk_mul, nI_leI, nI_ltI, nI_eq, pk_sub, ib_nI, nI_clamp, va_up_self, va_up_ne, va_up_up, va_up_comm, pk_us, pk_un, upd_up, updL_up, pk_uLs, pk_uLn, b01_1, b01_0, b01_1s, b01_0s, or_b]
  exact this
end RNS
