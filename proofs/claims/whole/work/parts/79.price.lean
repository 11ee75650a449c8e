/-! PRICES: the class, II -/
section PRD
variable {G : ai_G} {d n sl : Nat} {Q : List Value → Nat → Nat → ai_M → Prop} {l k : Nat → Nat → Int32} {P S : Nat} {Y : mY} {X : mX}
theorem nI_mi1 {a : Nat} (h : a < 2 ^ 31) : ¬ nI a = mi1 := fun e => by have := mi1_lt (v := a) h; rw [e] at this; exact Int32.lt_irrefl this
theorem mi1_nI {a : Nat} (h : a < 2 ^ 31) : ¬ mi1 = nI a := fun e => nI_mi1 h e.symm
set_option maxHeartbeats 4000000 in
theorem choose_zero (hP : P ≤ 8) (hm : X 38 3 = nI P) : ∀ (r i : Nat) (hr : Nat → Int32), i + r = P → (∀ q, q < i → hr q = 0) → (∀ hr', (∀ q, q < P → hr' q = 0) → aw ET G d 107 23 [some (.ref 38), some (.ref 61), some (.int (nI P)), none] [] 231 sl (mem (va_up X 41 hr') Y) Q) → aw ET G d 107 2 [some (.ref 38), some (.ref 61), some (.int (nI i)), none] [] 231 sl (mem (va_up X 41 hr) Y) Q := by
  intro r
  induction r with
  | zero =>
    intro i hr hi h0 hQ
    have : i = P := by omega
    subst this
    have := hQ hr h0
    simp (disch := omega) [w107_1, w107_3, x107_4_38, w107_7, w107_10, x107_11_38, w107_14, w107_15, w107_16, w107_17, w107_20, w107_24, w107_26, x107_27_38, w107_30, w107_33, x107_34_61, w107_37, w107_38, w107_39, w107_42, w107_43, x107_44_61, w107_47, x107_48_38, w107_51, w107_54, w107_55, w107_56, x107_57_38, w107_60, w107_61, w107_62, w107_63, w107_64, w107_65, w107_68, x107_69_38, w107_72, w107_73, w107_74, w107_75, x107_76_61, w107_79, w107_80, w107_81, w107_82, w107_83, w107_86, w107_89, rt107, w107_2, aw_st, ai_cls, ai_len, ai_p, ai_sw, ai_m, ai_c, ai_at, ai_isI, ai_isJ, ai_isA, ai_ld, ai_1i, ai_2i, ai_2l, ai_cn, ai_j, ai_set, ai_set2, ai_nl, ai_rs, ai_sm, Value.category, hk0, hk1, lits, litb, litm, litm2, List.getElem?_cons_zero, List.getElem?_cons_succ, or_n0, bit_r, fi0, fi1, fi2, fi3, nI_toInt, nI_add, pk_mul, nI_leI, nI_ltI, nI_eq, pk_sub, ib_nI, nI_clamp, va_up_self, va_up_ne, va_up_up, va_up_comm, pk_us, pk_un, upd_up, updL_up, pk_uLs, pk_uLn, b01_1, b01_0, b01_1s, b01_0s, or_b, hm]
    exact this
  | succ r ih =>
    intro i hr hi h0 hQ
    rw [w107_2]
    simp (disch := omega) [w107_1, w107_3, x107_4_38, w107_7, w107_10, x107_11_38, w107_14, w107_15, w107_16, w107_17, w107_20, w107_24, w107_26, x107_27_38, w107_30, w107_33, x107_34_61, w107_37, w107_38, w107_39, w107_42, w107_43, x107_44_61, w107_47, x107_48_38, w107_51, w107_54, w107_55, w107_56, x107_57_38, w107_60, w107_61, w107_62, w107_63, w107_64, w107_65, w107_68, x107_69_38, w107_72, w107_73, w107_74, w107_75, x107_76_61, w107_79, w107_80, w107_81, w107_82, w107_83, w107_86, w107_89, rt107, aw_st, ai_cls, ai_len, ai_p, ai_sw, ai_m, ai_c, ai_at, ai_isI, ai_isJ, ai_isA, ai_ld, ai_1i, ai_2i, ai_2l, ai_cn, ai_j, ai_set, ai_set2, ai_nl, ai_rs, ai_sm, Value.category, hk0, hk1, lits, litb, litm, litm2, List.getElem?_cons_zero, List.getElem?_cons_succ, or_n0, bit_r, fi0, fi1, fi2, fi3, nI_toInt, nI_add, pk_mul, nI_leI, nI_ltI, nI_eq, pk_sub, ib_nI, nI_clamp, va_up_self, va_up_ne, va_up_up, va_up_comm, pk_us, pk_un, upd_up, updL_up, pk_uLs, pk_uLn, b01_1, b01_0, b01_1s, b01_0s, or_b, mm41, mu41, hm, show ¬ P ≤ i by omega]
    refine ih (i + 1) _ (by omega) ?_ hQ
    intro q hq
    by_cases e : q = i
    · subst e; simp [upd]; rfl
    · rw [pk_un e]; exact h0 q (by omega)
set_option maxHeartbeats 4000000 in
theorem choose_loop {pr : Nat → Int32} (hP : P ≤ 8) (hm : X 38 3 = nI P) (hpr : ∀ q, q < P → X 39 q = pr q) (he : ∀ q, q < P → X 49 q = k 1 q) (hn : ∀ p, p < P → X 62 p = l 1 p) : ∀ (r p : Nat) (w hr : Nat → Int32) (z3 : Option Value), p + r = P → (∀ q, q < p → w q = wantP l k pr P q) → (∀ q, q < P → hsR l k pr P q p r (hr q) = hsR l k pr P q 0 P 0) → (∀ w' hr', (∀ q, q < P → w' q = wantP l k pr P q) → (∀ q, q < P → hr' q = hsR l k pr P q 0 P 0) → Q [] 231 sl (mem (va_up (va_up X 40 w') 41 hr') Y)) → aw ET G (d + 1) 107 25 [some (.ref 38), some (.ref 61), some (.int (nI p)), z3] [] 231 sl (mem (va_up (va_up X 40 w) 41 hr) Y) Q := by
  intro r
  induction r with
  | zero =>
    intro p w hr z3 hp h1 h2 hQ
    have : p = P := by omega
    subst this
    have := hQ w hr h1 h2
    simp (disch := omega) [w107_1, w107_3, x107_4_38, w107_7, w107_10, x107_11_38, w107_14, w107_15, w107_16, w107_17, w107_20, w107_24, w107_25, w107_26, x107_27_38, w107_30, w107_33, x107_34_61, w107_37, w107_38, w107_39, w107_42, w107_43, x107_44_61, w107_47, x107_48_38, w107_51, w107_54, w107_55, w107_56, x107_57_38, w107_60, w107_61, w107_62, w107_63, w107_64, w107_65, w107_68, x107_69_38, w107_72, w107_73, w107_74, w107_75, x107_76_61, w107_79, w107_80, w107_81, w107_82, w107_83, w107_86, w107_89, rt107, aw_st, ai_cls, ai_len, ai_p, ai_sw, ai_m, ai_c, ai_at, ai_isI, ai_isJ, ai_isA, ai_ld, ai_1i, ai_2i, ai_2l, ai_cn, ai_j, ai_set, ai_set2, ai_nl, ai_rs, ai_sm, Value.category, hk0, hk1, lits, litb, litm, litm2, List.getElem?_cons_zero, List.getElem?_cons_succ, or_n0, bit_r, fi0, fi1, fi2, fi3, nI_toInt, nI_add, pk_mul, nI_leI, nI_ltI, nI_eq, pk_sub, ib_nI, nI_clamp, va_up_self, va_up_ne, va_up_up, va_up_comm, pk_us, pk_un, upd_up, updL_up, pk_uLs, pk_uLn, b01_1, b01_0, b01_1s, b01_0s, or_b, hm]
    exact this
  | succ r ih =>
    intro p w hr z3 hp h1 h2 hQ
    have hn' := hn p (by omega)
    have hc : ∀ (Q : List Value → Nat → Nat → ai_M → Prop), aw ET G d 108 0 [some (.ref 38), some (.ref 47), some (.int (nI p)), none, none, none] [] 231 sl (mem (va_up (va_up X 40 w) 41 hr) Y) Q = Q [.int (chR k pr p 0 P mi1)] 231 sl (mem (va_up (va_up X 40 w) 41 hr) Y) := fun Q => cheap_eq (X := va_up (va_up X 40 w) 41 hr) hP hm hpr he (by omega)
    have fin : ∀ hr2 v, v = wantP l k pr P p → (∀ q, q < P → hr2 q = if v = nI q then hr q + l 1 p else hr q) → (∀ z3, aw ET G (d + 1) 107 25 [some (.ref 38), some (.ref 61), some (.int (nI (p + 1))), z3] [] 231 sl (mem (va_up (va_up X 40 (upd w p v)) 41 hr2) Y) Q) := by
      intro hr2 v hv h3 z3
      refine ih (p + 1) _ _ z3 (by omega) ?_ ?_ hQ
      · intro q hq
        by_cases e : q = p
        · subst e; rw [pk_us]; exact hv
        · rw [pk_un e]; exact h1 q (by omega)
      · intro q hq
        have := h2 q hq
        rw [h3 q hq, hv]
        exact this
    rw [w107_25]
    rcases lt_or (nI 0) (l 1 p) with ⟨g1, g2⟩ | ⟨g1, g2⟩
    · have hw : wantP l k pr P p = chR k pr p 0 P mi1 := if_pos g1
      rcases wantP_ok (l := l) (k := k) (P := P) (pr := pr) p with e | ⟨a, ha, e⟩
      · rw [hw] at e
        simp (disch := omega) [w107_1, w107_3, x107_4_38, w107_7, w107_10, x107_11_38, w107_14, w107_15, w107_16, w107_17, w107_20, w107_24, w107_26, x107_27_38, w107_30, w107_33, x107_34_61, w107_37, w107_38, w107_39, w107_42, w107_43, x107_44_61, w107_47, x107_48_38, w107_51, w107_54, w107_55, w107_56, x107_57_38, w107_60, w107_61, w107_62, w107_63, w107_64, w107_65, w107_68, x107_69_38, w107_72, w107_73, w107_74, w107_75, x107_76_61, w107_79, w107_80, w107_81, w107_82, w107_83, w107_86, w107_89, rt107, aw_st, ai_cls, ai_len, ai_p, ai_sw, ai_m, ai_c, ai_at, ai_isI, ai_isJ, ai_isA, ai_ld, ai_1i, ai_2i, ai_2l, ai_cn, ai_j, ai_set, ai_set2, ai_nl, ai_rs, ai_sm, Value.category, hk0, hk1, lits, litb, litm, litm2, List.getElem?_cons_zero, List.getElem?_cons_succ, or_n0, bit_r, fi0, fi1, fi2, fi3, nI_toInt, nI_add, pk_mul, nI_leI, nI_ltI, nI_eq, pk_sub, ib_nI, nI_clamp, va_up_self, va_up_ne, va_up_up, va_up_comm, pk_us, pk_un, upd_up, updL_up, pk_uLs, pk_uLn, b01_1, b01_0, b01_1s, b01_0s, or_b, mm40, mu40, mm41, mu41, mm62, hm, hn', hc, g1, g2, e, show ¬ P ≤ p by omega]
        exact fin hr mi1 (by rw [hw, e]) (fun q hq => by rw [if_neg (mi1_nI (by omega))]) _
      · rw [hw] at e
        simp (disch := omega) [w107_1, w107_3, x107_4_38, w107_7, w107_10, x107_11_38, w107_14, w107_15, w107_16, w107_17, w107_20, w107_24, w107_26, x107_27_38, w107_30, w107_33, x107_34_61, w107_37, w107_38, w107_39, w107_42, w107_43, x107_44_61, w107_47, x107_48_38, w107_51, w107_54, w107_55, w107_56, x107_57_38, w107_60, w107_61, w107_62, w107_63, w107_64, w107_65, w107_68, x107_69_38, w107_72, w107_73, w107_74, w107_75, x107_76_61, w107_79, w107_80, w107_81, w107_82, w107_83, w107_86, w107_89, rt107, aw_st, ai_cls, ai_len, ai_p, ai_sw, ai_m, ai_c, ai_at, ai_isI, ai_isJ, ai_isA, ai_ld, ai_1i, ai_2i, ai_2l, ai_cn, ai_j, ai_set, ai_set2, ai_nl, ai_rs, ai_sm, Value.category, hk0, hk1, lits, litb, litm, litm2, List.getElem?_cons_zero, List.getElem?_cons_succ, or_n0, bit_r, fi0, fi1, fi2, fi3, nI_toInt, nI_add, pk_mul, nI_leI, nI_ltI, nI_eq, pk_sub, ib_nI, nI_clamp, va_up_self, va_up_ne, va_up_up, va_up_comm, pk_us, pk_un, upd_up, updL_up, pk_uLs, pk_uLn, b01_1, b01_0, b01_1s, b01_0s, or_b, mm40, mu40, mm41, mu41, mm62, hm, hn', hc, g1, g2, e, nI_mi1, show ¬ P ≤ p by omega]
        refine fin _ (nI a) (by rw [hw, e]) (fun q hq => ?_) _
        by_cases c : q = a
        · subst c; simp [upd]
        · rw [pk_un c, if_neg (fun q1 => c ((nI_eq (by omega) (by omega)).mp q1).symm)]
    · have hw : wantP l k pr P p = mi1 := if_neg g1
      simp (disch := omega) [w107_1, w107_3, x107_4_38, w107_7, w107_10, x107_11_38, w107_14, w107_15, w107_16, w107_17, w107_20, w107_24, w107_26, x107_27_38, w107_30, w107_33, x107_34_61, w107_37, w107_38, w107_39, w107_42, w107_43, x107_44_61, w107_47, x107_48_38, w107_51, w107_54, w107_55, w107_56, x107_57_38, w107_60, w107_61, w107_62, w107_63, w107_64, w107_65, w107_68, x107_69_38, w107_72, w107_73, w107_74, w107_75, x107_76_61, w107_79, w107_80, w107_81, w107_82, w107_83, w107_86, w107_89, rt107, aw_st, ai_cls, ai_len, ai_p, ai_sw, ai_m, ai_c, ai_at, ai_isI, ai_isJ, ai_isA, ai_ld, ai_1i, ai_2i, ai_2l, ai_cn, ai_j, ai_set, ai_set2, ai_nl, ai_rs, ai_sm, Value.category, hk0, hk1, lits, litb, litm, litm2, List.getElem?_cons_zero, List.getElem?_cons_succ, or_n0, bit_r, fi0, fi1, fi2, fi3, nI_toInt, nI_add, pk_mul, nI_leI, nI_ltI, nI_eq, pk_sub, ib_nI, nI_clamp, va_up_self, va_up_ne, va_up_up, va_up_comm, pk_us, pk_un, upd_up, updL_up, pk_uLs, pk_uLn, b01_1, b01_0, b01_1s, b01_0s, or_b, mm40, mu40, mm41, mu41, mm62, hm, hn', hc, g1, g2, show ¬ P ≤ p by omega]
      exact fin hr mi1 hw.symm (fun q hq => by rw [if_neg (mi1_nI (by omega))]) _
theorem choose_wp {pr : Nat → Int32} (hP : P ≤ 8) (hm : X 38 3 = nI P) (hpr : ∀ q, q < P → X 39 q = pr q) (he : ∀ q, q < P → X 49 q = k 1 q) (hn : ∀ p, p < P → X 62 p = l 1 p) (hQ : ∀ w' hr', (∀ q, q < P → w' q = wantP l k pr P q) → (∀ q, q < P → hr' q = hsR l k pr P q 0 P 0) → Q [] 231 sl (mem (va_up (va_up X 40 w') 41 hr') Y)) : aw ET G (d + 1) 107 0 [some (.ref 38), some (.ref 61), none, none] [] 231 sl (mem X Y) Q := by
  have h := choose_zero (G := G) (d := d + 1) (sl := sl) (Q := Q) (Y := Y) hP hm P 0 (X 41) (by omega) (fun q hq => by omega) (fun hr' h0 => by
    have hl := choose_loop (G := G) (d := d) (sl := sl) (Q := Q) (Y := Y) (l := l) (k := k) (pr := pr) hP hm hpr he hn P 0 (X 40) hr' (some (.int 0)) (by omega) (fun q hq => by omega) (fun q hq => by rw [h0 q hq]) hQ
    have hl2 := choose_loop (G := G) (d := d) (sl := sl) (Q := Q) (Y := Y) (l := l) (k := k) (pr := pr) hP hm hpr he hn P 0 (X 40) hr' none (by omega) (fun q hq => by omega) (fun q hq => by rw [h0 q hq]) hQ
    rw [va_id] at hl2
    simp (disch := omega) [w107_23, w107_24, aw_st, ai_cls, ai_len, ai_p, ai_sw, ai_m, ai_c, ai_at, ai_isI, ai_isJ, ai_isA, ai_ld, ai_1i, ai_2i, ai_2l, ai_cn, ai_j, ai_set, ai_set2, ai_nl, ai_rs, ai_sm, Value.category, hk0, hk1, lits, litb, litm, litm2, List.getElem?_cons_zero, List.getElem?_cons_succ, or_n0, bit_r, fi0, fi1, fi2, fi3, nI_toInt, nI_add, pk_mul, nI_leI, nI_ltI, nI_eq, pk_sub, ib_nI, nI_clamp, va_up_self, va_up_ne, va_up_up, va_up_comm, pk_us, pk_un, upd_up, updL_up, pk_uLs, pk_uLn, b01_1, b01_0, b01_1s, b01_0s, or_b]
    exact hl2)
  rw [va_id] at h
  simp (disch := omega) [w107_0, w107_1, aw_st, ai_cls, ai_len, ai_p, ai_sw, ai_m, ai_c, ai_at, ai_isI, ai_isJ, ai_isA, ai_ld, ai_1i, ai_2i, ai_2l, ai_cn, ai_j, ai_set, ai_set2, ai_nl, ai_rs, ai_sm, Value.category, hk0, hk1, lits, litb, litm, litm2, List.getElem?_cons_zero, List.getElem?_cons_succ, or_n0, bit_r, fi0, fi1, fi2, fi3, nI_toInt, nI_add, pk_mul, nI_leI, nI_ltI, nI_eq, pk_sub, ib_nI, nI_clamp, va_up_self, va_up_ne, va_up_up, va_up_comm, pk_us, pk_un, upd_up, updL_up, pk_uLs, pk_uLn, b01_1, b01_0, b01_1s, b01_0s, or_b]
  exact h
set_option maxHeartbeats 4000000 in
theorem raise_loop {pr : Nat → Int32} {step : Int32} (hP : P ≤ 8) (hm : X 38 3 = nI P) (he : ∀ q, q < P → X 49 q = k 1 q) (hh : ∀ q, q < P → X 41 q = hsR l k pr P q 0 P 0) : ∀ (r q : Nat) (pr' : Nat → Int32) (b : Bool), q + r = P → (∀ j, j < P → pr' j = if j < q then prN l k P step pr j else pr j) → (∀ p2, (∀ j, j < P → p2 j = prN l k P step pr j) → Q [.int (b01 (rzR l k P pr q r b = true))] 231 sl (mem (va_up X 39 p2) Y)) → aw ET G d 109 5 [some (.ref 38), some (.ref 47), some (.int step), some (.int (b01 (b = true))), some (.int (nI q))] [] 231 sl (mem (va_up X 39 pr') Y) Q := by
  intro r
  induction r with
  | zero =>
    intro q pr' b hq h1 hQ
    have := hQ pr' (fun j hj => by rw [h1 j hj, if_pos (by omega)])
    simp (disch := omega) [w109_1, w109_2, w109_3, w109_5, w109_7, x109_8_38, w109_11, w109_14, x109_15_38, w109_18, w109_20, w109_21, x109_22_47, w109_25, w109_27, w109_28, w109_31, x109_32_38, w109_35, w109_37, w109_38, w109_39, w109_40, w109_41, w109_42, w109_43, w109_44, w109_47, w109_50, w109_51, rt109, aw_st, ai_cls, ai_len, ai_p, ai_sw, ai_m, ai_c, ai_at, ai_isI, ai_isJ, ai_isA, ai_ld, ai_1i, ai_2i, ai_2l, ai_cn, ai_j, ai_set, ai_set2, ai_nl, ai_rs, ai_sm, Value.category, hk0, hk1, lits, litb, litm, litm2, List.getElem?_cons_zero, List.getElem?_cons_succ, or_n0, bit_r, fi0, fi1, fi2, fi3, nI_toInt, nI_add, pk_mul, nI_leI, nI_ltI, nI_eq, pk_sub, ib_nI, nI_clamp, va_up_self, va_up_ne, va_up_up, va_up_comm, pk_us, pk_un, upd_up, updL_up, pk_uLs, pk_uLn, b01_1, b01_0, b01_1s, b01_0s, or_b, hm, show P ≤ q by omega]
    exact this
  | succ r ih =>
    intro q pr' b hq h1 hQ
    have he' := he q (by omega)
    have hh' := hh q (by omega)
    have hp := h1 q (by omega)
    rw [if_neg (by omega)] at hp
    rw [w109_5]
    rcases lt_or (k 1 q) (hsR l k pr P q 0 P (nI 0)) with ⟨g1, g2⟩ | ⟨g1, g2⟩
    · have g1' : k 1 q < hsR l k pr P q 0 P 0 := g1
      have hN : prN l k P step pr q = pr q + step := if_pos ⟨by omega, g1⟩
      simp (disch := omega) [w109_1, w109_2, w109_3, w109_7, x109_8_38, w109_11, w109_14, x109_15_38, w109_18, w109_20, w109_21, x109_22_47, w109_25, w109_27, w109_28, w109_31, x109_32_38, w109_35, w109_37, w109_38, w109_39, w109_40, w109_41, w109_42, w109_43, w109_44, w109_47, w109_50, w109_51, rt109, aw_st, ai_cls, ai_len, ai_p, ai_sw, ai_m, ai_c, ai_at, ai_isI, ai_isJ, ai_isA, ai_ld, ai_1i, ai_2i, ai_2l, ai_cn, ai_j, ai_set, ai_set2, ai_nl, ai_rs, ai_sm, Value.category, hk0, hk1, lits, litb, litm, litm2, List.getElem?_cons_zero, List.getElem?_cons_succ, or_n0, bit_r, fi0, fi1, fi2, fi3, nI_toInt, nI_add, pk_mul, nI_leI, nI_ltI, nI_eq, pk_sub, ib_nI, nI_clamp, va_up_self, va_up_ne, va_up_up, va_up_comm, pk_us, pk_un, upd_up, updL_up, pk_uLs, pk_uLn, b01_1, b01_0, b01_1s, b01_0s, or_b, mm39, mu39, mm41, mm49, hm, he', hh', hp, g1, g2, show ¬ P ≤ q by omega]
      have i1 := ih (q + 1) (upd pr' q (pr q + step)) true (by omega) ?_ (fun p2 h2 => by have := hQ p2 h2; unfold rzR at this; rw [if_pos g1'] at this; exact this)
      · exact i1
      · intro j hj
        by_cases e : j = q
        · subst e; rw [pk_us, if_pos (by omega), hN]
        · rw [pk_un e, h1 j hj]
          by_cases e2 : j < q
          · rw [if_pos e2, if_pos (by omega)]
          · rw [if_neg e2, if_neg (by omega)]
    · have g1' : ¬ k 1 q < hsR l k pr P q 0 P 0 := g1
      have hN : prN l k P step pr q = pr q := if_neg (fun x => g1 x.2)
      simp (disch := omega) [w109_1, w109_2, w109_3, w109_7, x109_8_38, w109_11, w109_14, x109_15_38, w109_18, w109_20, w109_21, x109_22_47, w109_25, w109_27, w109_28, w109_31, x109_32_38, w109_35, w109_37, w109_38, w109_39, w109_40, w109_41, w109_42, w109_43, w109_44, w109_47, w109_50, w109_51, rt109, aw_st, ai_cls, ai_len, ai_p, ai_sw, ai_m, ai_c, ai_at, ai_isI, ai_isJ, ai_isA, ai_ld, ai_1i, ai_2i, ai_2l, ai_cn, ai_j, ai_set, ai_set2, ai_nl, ai_rs, ai_sm, Value.category, hk0, hk1, lits, litb, litm, litm2, List.getElem?_cons_zero, List.getElem?_cons_succ, or_n0, bit_r, fi0, fi1, fi2, fi3, nI_toInt, nI_add, pk_mul, nI_leI, nI_ltI, nI_eq, pk_sub, ib_nI, nI_clamp, va_up_self, va_up_ne, va_up_up, va_up_comm, pk_us, pk_un, upd_up, updL_up, pk_uLs, pk_uLn, b01_1, b01_0, b01_1s, b01_0s, or_b, mm39, mu39, mm41, mm49, hm, he', hh', hp, g1, g2, show ¬ P ≤ q by omega]
      refine ih (q + 1) pr' b (by omega) ?_ (fun p2 h2 => by have := hQ p2 h2; unfold rzR at this; rw [if_neg g1'] at this; exact this)
      intro j hj
      rw [h1 j hj]
      by_cases e : j = q
      · subst e; rw [if_neg (by omega), if_pos (by omega), hN]
      · by_cases e2 : j < q
        · rw [if_pos e2, if_pos (by omega)]
        · rw [if_neg e2, if_neg (by omega)]
theorem raise_wp {pr : Nat → Int32} {step : Int32} (hP : P ≤ 8) (hm : X 38 3 = nI P) (hpr : ∀ q, q < P → X 39 q = pr q) (he : ∀ q, q < P → X 49 q = k 1 q) (hh : ∀ q, q < P → X 41 q = hsR l k pr P q 0 P 0) (hQ : ∀ p2, (∀ j, j < P → p2 j = prN l k P step pr j) → Q [.int (b01 (rzR l k P pr 0 P false = true))] 231 sl (mem (va_up X 39 p2) Y)) : aw ET G d 109 0 [some (.ref 38), some (.ref 47), some (.int step), none, none] [] 231 sl (mem X Y) Q := by
  have h := raise_loop (G := G) (d := d) (sl := sl) (Q := Q) (Y := Y) (l := l) (k := k) (pr := pr) (step := step) hP hm he hh P 0 (X 39) false (by omega) (fun j hj => by rw [if_neg (by omega)]; exact hpr j hj) hQ
  rw [va_id] at h
  simp (disch := omega) [w109_0, w109_1, w109_2, w109_3, aw_st, ai_cls, ai_len, ai_p, ai_sw, ai_m, ai_c, ai_at, ai_isI, ai_isJ, ai_isA, ai_ld, ai_1i, ai_2i, ai_2l, ai_cn, ai_j, ai_set, ai_set2, ai_nl, ai_rs, ai_sm, Value.category, hk0, hk1, lits, litb, litm, litm2, List.getElem?_cons_zero, List.getElem?_cons_succ, or_n0, bit_r, fi0, fi1, fi2, fi3, nI_toInt, nI_add, pk_mul, nI_leI, nI_ltI, nI_eq, pk_sub, ib_nI, nI_clamp, va_up_self, va_up_ne, va_up_up, va_up_comm, pk_us, pk_un, upd_up, updL_up, pk_uLs, pk_uLn, b01_1, b01_0, b01_1s, b01_0s, or_b]
  exact h
end PRD
