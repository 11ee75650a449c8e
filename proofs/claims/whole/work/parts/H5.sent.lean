/-! A SENTENCE's text: the class, ONE at every depth; in all -/
section SNF
variable {G : ai_G} {d sl : Nat} {c : TC} {P S : Nat} {nm : Nat → List Nat}
theorem on_5 {X : mX} {o : Nat} {L : List SC} (h : SS X L o) : SS (va_up X 14 (upd (X 14) 5 (nI (o + 1)))) L (o + 1) := by
  obtain ⟨h1, h2, h3⟩ := h
  refine ⟨by rw [va_up_self, pk_us], by rw [va_up_self, pk_un (by omega)]; exact h2, fun q hq => ?_⟩
  rw [va_up_ne _ _ (by omega), va_up_ne _ _ (by omega), va_up_ne _ _ (by omega)]
  exact h3 q hq
theorem FN_5 {X : mX} {Y : mY} {v : Int32} : FN X Y (va_up X 14 (upd (X 14) 5 v)) Y := ⟨fun k _ a => va_up_ne _ _ (by omega), fun j _ a => by rw [va_up_self, pk_un a], fun _ _ => rfl⟩
set_option maxHeartbeats 8000000 in
theorem one_bad {D : Nat} {X : mX} {Y : mY} {i o : Nat} {L : List SC} {Q : List Value → Nat → Nat → ai_M → Prop} (h : RDC c i (X 2) (Y 2) (nI 0)) (ok : OKc c X) (hi : i ≤ c.2.1) (hs : SS X L o) (ho : o ≤ 20) (hD9 : D ≤ 9) (hb : (¬ cK c i = 40 ∧ isBg (cY c i) = false) ∨ o = 20 ∨ 8 < D) (hQ1 : ∀ e j, oneE c nm P S D i o L (e, j) → snBad Q sl c X Y e j) : aw ET G (d + 6) 158 0 [some (.ref 14), some (.ref 2), some (.ref 47), some (.int (nI D)), none, none] [] 231 sl (mem X Y) Q := by
  have hk := rdc_key h
  have h4 := rdc_kind h
  have k256 : cK c i < 256 := tK_lt ok.1 ok.2.1 hi
  have hbe := fun (Q : List Value → Nat → Nat → ai_M → Prop) => isBg_eq (G := G) (d := d + 4) (sl := sl) (Q := Q) (X := X) (Y := Y) (y := cY c i) cY_le
  have hre : ∀ (e : Nat) (Q : List Value → Nat → Nat → ai_M → Prop), hBad Q sl c X Y (nI 0) e i → aw ET G (d + 5) 33 0 [some (.ref 2), some (.int (nI e))] [] 231 sl (mem X Y) Q := fun e Q q => Hrefused h q
  by_cases b1 : ¬ cK c i = 40 ∧ isBg (cY c i) = false
  · have e0 : b01 (false = true) = nI 0 := by decide
    rw [b1.2, e0] at hbe
    simp (disch := omega) [w158_0, x158_1_2, w158_4, w158_6, w158_9, w158_10, w158_13, w158_14, w158_16, w158_18, w158_21, x158_22_2, x158_25, w158_28, w158_31, w158_32, rt158, rt158, aw_st, ai_cls, ai_len, ai_p, ai_sw, ai_m, ai_c, ai_at, ai_isI, ai_isJ, ai_isA, ai_ld, ai_1i, ai_2i, ai_2l, ai_cn, ai_j, ai_set, ai_set2, ai_nl, ai_rs, ai_sm, Value.category, hk0, hk1, lits, litb, litm, litm2, List.getElem?_cons_zero, List.getElem?_cons_succ, or_n0, bit_r, fi0, fi1, fi2, fi3, nI_toInt, nI_add, pk_mul, nI_leI, nI_ltI, nI_eq, pk_sub, ib_nI, nI_clamp, va_up_self, va_up_ne, va_up_up, va_up_comm, pk_us, pk_un, upd_up, updL_up, pk_uLs, pk_uLn, b01_1, b01_0, b01_1s, b01_0s, or_b, h4, hk, b1.1, hbe]
    rw [x158_33_2, if_pos (by decide)]
    refine hre 1 _ (fun X' Y' f r => ?_)
    simp (disch := omega) [w158_36, rt158, rt158, aw_st, ai_cls, ai_len, ai_p, ai_sw, ai_m, ai_c, ai_at, ai_isI, ai_isJ, ai_isA, ai_ld, ai_1i, ai_2i, ai_2l, ai_cn, ai_j, ai_set, ai_set2, ai_nl, ai_rs, ai_sm, Value.category, hk0, hk1, lits, litb, litm, litm2, List.getElem?_cons_zero, List.getElem?_cons_succ, or_n0, bit_r, fi0, fi1, fi2, fi3, nI_toInt, nI_add, pk_mul, nI_leI, nI_ltI, nI_eq, pk_sub, ib_nI, nI_clamp, va_up_self, va_up_ne, va_up_up, va_up_comm, pk_us, pk_un, upd_up, updL_up, pk_uLs, pk_uLn, b01_1, b01_0, b01_1s, b01_0s, or_b]
    exact hQ1 1 i (one_e1 b1.1 b1.2) X' Y' f.fn r
  · have b2 := hb.resolve_left b1
    have g52 : ∀ x4, aw ET G (d + 6) 158 52 [some (.ref 14), some (.ref 2), some (.ref 47), some (.int (nI D)), x4, none] [] 231 sl (mem X Y) Q := by
      intro x4
      simp (disch := omega) [w158_52, w158_53, rt158, rt158, aw_st, ai_cls, ai_len, ai_p, ai_sw, ai_m, ai_c, ai_at, ai_isI, ai_isJ, ai_isA, ai_ld, ai_1i, ai_2i, ai_2l, ai_cn, ai_j, ai_set, ai_set2, ai_nl, ai_rs, ai_sm, Value.category, hk0, hk1, lits, litb, litm, litm2, List.getElem?_cons_zero, List.getElem?_cons_succ, or_n0, bit_r, fi0, fi1, fi2, fi3, nI_toInt, nI_add, pk_mul, nI_leI, nI_ltI, nI_eq, pk_sub, ib_nI, nI_clamp, va_up_self, va_up_ne, va_up_up, va_up_comm, pk_us, pk_un, upd_up, updL_up, pk_uLs, pk_uLn, b01_1, b01_0, b01_1s, b01_0s, or_b]
      rw [x158_54_2, if_pos (by decide)]
      refine hre 4 _ (fun X' Y' f r => ?_)
      simp (disch := omega) [w158_57, rt158, rt158, aw_st, ai_cls, ai_len, ai_p, ai_sw, ai_m, ai_c, ai_at, ai_isI, ai_isJ, ai_isA, ai_ld, ai_1i, ai_2i, ai_2l, ai_cn, ai_j, ai_set, ai_set2, ai_nl, ai_rs, ai_sm, Value.category, hk0, hk1, lits, litb, litm, litm2, List.getElem?_cons_zero, List.getElem?_cons_succ, or_n0, bit_r, fi0, fi1, fi2, fi3, nI_toInt, nI_add, pk_mul, nI_leI, nI_ltI, nI_eq, pk_sub, ib_nI, nI_clamp, va_up_self, va_up_ne, va_up_up, va_up_comm, pk_us, pk_un, upd_up, updL_up, pk_uLs, pk_uLn, b01_1, b01_0, b01_1s, b01_0s, or_b]
      exact hQ1 4 i (one_e4 b1 b2) X' Y' f.fn r
    have g37 : ∀ x4, aw ET G (d + 6) 158 37 [some (.ref 14), some (.ref 2), some (.ref 47), some (.int (nI D)), x4, none] [] 231 sl (mem X Y) Q := by
      intro x4
      by_cases o20 : 20 ≤ o
      · simp (disch := omega) [w158_37, x158_38_14, w158_41, w158_43, rt158, rt158, aw_st, ai_cls, ai_len, ai_p, ai_sw, ai_m, ai_c, ai_at, ai_isI, ai_isJ, ai_isA, ai_ld, ai_1i, ai_2i, ai_2l, ai_cn, ai_j, ai_set, ai_set2, ai_nl, ai_rs, ai_sm, Value.category, hk0, hk1, lits, litb, litm, litm2, List.getElem?_cons_zero, List.getElem?_cons_succ, or_n0, bit_r, fi0, fi1, fi2, fi3, nI_toInt, nI_add, pk_mul, nI_leI, nI_ltI, nI_eq, pk_sub, ib_nI, nI_clamp, va_up_self, va_up_ne, va_up_up, va_up_comm, pk_us, pk_un, upd_up, updL_up, pk_uLs, pk_uLn, b01_1, b01_0, b01_1s, b01_0s, or_b, hs.1, o20]
        exact g52 x4
      · simp (disch := omega) [w158_37, x158_38_14, w158_41, w158_43, w158_46, w158_47, w158_49, rt158, rt158, aw_st, ai_cls, ai_len, ai_p, ai_sw, ai_m, ai_c, ai_at, ai_isI, ai_isJ, ai_isA, ai_ld, ai_1i, ai_2i, ai_2l, ai_cn, ai_j, ai_set, ai_set2, ai_nl, ai_rs, ai_sm, Value.category, hk0, hk1, lits, litb, litm, litm2, List.getElem?_cons_zero, List.getElem?_cons_succ, or_n0, bit_r, fi0, fi1, fi2, fi3, nI_toInt, nI_add, pk_mul, nI_leI, nI_ltI, nI_eq, pk_sub, ib_nI, nI_clamp, va_up_self, va_up_ne, va_up_up, va_up_comm, pk_us, pk_un, upd_up, updL_up, pk_uLs, pk_uLn, b01_1, b01_0, b01_1s, b01_0s, or_b, hs.1, o20, show ¬ D ≤ 8 by omega]
        exact g52 x4
    by_cases k40 : cK c i = 40
    · rw [k40] at h4
      simp (disch := omega) [w158_0, x158_1_2, w158_4, w158_6, w158_9, w158_10, w158_13, w158_14, w158_16, w158_18, rt158, rt158, aw_st, ai_cls, ai_len, ai_p, ai_sw, ai_m, ai_c, ai_at, ai_isI, ai_isJ, ai_isA, ai_ld, ai_1i, ai_2i, ai_2l, ai_cn, ai_j, ai_set, ai_set2, ai_nl, ai_rs, ai_sm, Value.category, hk0, hk1, lits, litb, litm, litm2, List.getElem?_cons_zero, List.getElem?_cons_succ, or_n0, bit_r, fi0, fi1, fi2, fi3, nI_toInt, nI_add, pk_mul, nI_leI, nI_ltI, nI_eq, pk_sub, ib_nI, nI_clamp, va_up_self, va_up_ne, va_up_up, va_up_comm, pk_us, pk_un, upd_up, updL_up, pk_uLs, pk_uLn, b01_1, b01_0, b01_1s, b01_0s, or_b, h4]
      exact g37 _
    · have e1 : b01 (true = true) = nI 1 := by decide
      have hg : isBg (cY c i) = true := by
        cases q : isBg (cY c i)
        · exact absurd ⟨k40, q⟩ b1
        · rfl
      rw [hg, e1] at hbe
      simp (disch := omega) [w158_0, x158_1_2, w158_4, w158_6, w158_9, w158_10, w158_13, w158_14, w158_16, w158_18, w158_21, x158_22_2, x158_25, w158_28, rt158, rt158, aw_st, ai_cls, ai_len, ai_p, ai_sw, ai_m, ai_c, ai_at, ai_isI, ai_isJ, ai_isA, ai_ld, ai_1i, ai_2i, ai_2l, ai_cn, ai_j, ai_set, ai_set2, ai_nl, ai_rs, ai_sm, Value.category, hk0, hk1, lits, litb, litm, litm2, List.getElem?_cons_zero, List.getElem?_cons_succ, or_n0, bit_r, fi0, fi1, fi2, fi3, nI_toInt, nI_add, pk_mul, nI_leI, nI_ltI, nI_eq, pk_sub, ib_nI, nI_clamp, va_up_self, va_up_ne, va_up_up, va_up_comm, pk_us, pk_un, upd_up, updL_up, pk_uLs, pk_uLn, b01_1, b01_0, b01_1s, b01_0s, or_b, h4, hk, k40, hbe]
      exact g37 _
set_option maxHeartbeats 16000000 in
theorem one_good {D : Nat} (hD : D ≤ 8) (one : SNC G sl (d + 3) c nm P S 158 [none, none] (D + 1) (oneR c nm P S (D + 1)) (oneE c nm P S (D + 1))) (con : SNC G sl (d + 5) c nm P S 156 [none] (D + 1) (CON' c nm P S (D + 1)) (conE c nm P S (D + 1))) (one5 : SNC G sl (d + 5) c nm P S 158 [none, none] (D + 1) (oneR c nm P S (D + 1)) (oneE c nm P S (D + 1))) : SNC G sl (d + 6) c nm P S 158 [none, none] D (oneR c nm P S D) (oneE c nm P S D) := by
  intro X Y i o L Q ht h ok hi hs ho hl hQ1 hQ2
  show aw ET G (d + 6) 158 0 [some (.ref 14), some (.ref 2), some (.ref 47), some (.int (nI D)), none, none] [] 231 sl (mem X Y) Q
  by_cases hb : (¬ cK c i = 40 ∧ isBg (cY c i) = false) ∨ o = 20 ∨ 8 < D
  · exact one_bad (d := d) h ok hi hs ho (by omega) hb hQ1
  · have hb1 : ¬ (¬ cK c i = 40 ∧ isBg (cY c i) = false) := fun q => hb (Or.inl q)
    have ho20 : ¬ o = 20 := fun q => hb (Or.inr (Or.inl q))
    have hD8 : ¬ 8 < D := by omega
    have hk := rdc_key h
    have h4 := rdc_kind h
    have k256 : cK c i < 256 := tK_lt ok.1 ok.2.1 hi
    have hbe := fun (Q : List Value → Nat → Nat → ai_M → Prop) => isBg_eq (G := G) (d := d + 4) (sl := sl) (Q := Q) (X := X) (Y := Y) (y := cY c i) cY_le
    have hs5 := on_5 hs
    have hok5 : OKc c (va_up X 14 (upd (X 14) 5 (nI (o + 1)))) := OKc_fn ok (FN_5 (Y := Y))
    have ht5 : TN (va_up X 14 (upd (X 14) 5 (nI (o + 1)))) Y nm P S := TN_fn ht FN_5
    have h5 : RDC c i (va_up X 14 (upd (X 14) 5 (nI (o + 1))) 2) (Y 2) (nI 0) := by rw [va_up_ne _ _ (by omega)]; exact h
    have hk5 : va_up X 14 (upd (X 14) 5 (nI (o + 1))) 2 8 = yI (cY c i) := by rw [va_up_ne _ _ (by omega)]; exact hk
    by_cases k40 : cK c i = 40
    · rw [k40] at h4
      simp (disch := omega) [w158_0, x158_1_2, w158_4, w158_6, w158_9, w158_10, w158_13, w158_14, w158_16, w158_18, w158_21, x158_22_2, x158_25, w158_28, w158_31, w158_32, x158_33_2, w158_36, w158_37, x158_38_14, w158_41, w158_43, w158_46, w158_47, w158_49, w158_52, w158_53, x158_54_2, w158_57, w158_58, w158_59, x158_60_14, w158_63, w158_64, x158_65_14, w158_68, x158_69_2, w158_72, rt158, rt158, aw_st, ai_cls, ai_len, ai_p, ai_sw, ai_m, ai_c, ai_at, ai_isI, ai_isJ, ai_isA, ai_ld, ai_1i, ai_2i, ai_2l, ai_cn, ai_j, ai_set, ai_set2, ai_nl, ai_rs, ai_sm, Value.category, hk0, hk1, lits, litb, litm, litm2, List.getElem?_cons_zero, List.getElem?_cons_succ, or_n0, bit_r, fi0, fi1, fi2, fi3, nI_toInt, nI_add, pk_mul, nI_leI, nI_ltI, nI_eq, pk_sub, ib_nI, nI_clamp, va_up_self, va_up_ne, va_up_up, va_up_comm, pk_us, pk_un, upd_up, updL_up, pk_uLs, pk_uLn, b01_1, b01_0, b01_1s, b01_0s, or_b, h4, hs.1, hk, show ¬ 20 ≤ o by omega, hD]
      simp (disch := omega) [w158_74, rt158, rt158, aw_st, ai_cls, ai_len, ai_p, ai_sw, ai_m, ai_c, ai_at, ai_isI, ai_isJ, ai_isA, ai_ld, ai_1i, ai_2i, ai_2l, ai_cn, ai_j, ai_set, ai_set2, ai_nl, ai_rs, ai_sm, Value.category, hk0, hk1, lits, litb, litm, litm2, List.getElem?_cons_zero, List.getElem?_cons_succ, or_n0, bit_r, fi0, fi1, fi2, fi3, nI_toInt, nI_add, pk_mul, nI_leI, nI_ltI, nI_eq, pk_sub, ib_nI, nI_clamp, va_up_self, va_up_ne, va_up_up, va_up_comm, pk_us, pk_un, upd_up, updL_up, pk_uLs, pk_uLn, b01_1, b01_0, b01_1s, b01_0s, or_b]
      rw [x158_75_2, if_pos (by decide)]
      refine Hstep h5 hok5 hi (fun X1 Y1 f1 r1 => ?_)
      simp (disch := omega) [w158_78, w158_80, w158_83, w158_84, w158_85, w158_86, w158_87, w158_88, rt158, rt158, aw_st, ai_cls, ai_len, ai_p, ai_sw, ai_m, ai_c, ai_at, ai_isI, ai_isJ, ai_isA, ai_ld, ai_1i, ai_2i, ai_2l, ai_cn, ai_j, ai_set, ai_set2, ai_nl, ai_rs, ai_sm, Value.category, hk0, hk1, lits, litb, litm, litm2, List.getElem?_cons_zero, List.getElem?_cons_succ, or_n0, bit_r, fi0, fi1, fi2, fi3, nI_toInt, nI_add, pk_mul, nI_leI, nI_ltI, nI_eq, pk_sub, ib_nI, nI_clamp, va_up_self, va_up_ne, va_up_up, va_up_comm, pk_us, pk_un, upd_up, updL_up, pk_uLs, pk_uLn, b01_1, b01_0, b01_1s, b01_0s, or_b]
      rw [x158_89_14, if_pos (by decide)]
      have f01 := FN_5.tr f1.fn
      refine con X1 Y1 (cA c i) (o + 1) L _ (TN_fn ht5 f1.fn) r1 (OKc_h hok5 f1) (cA_le hi) (SS_h hs5 f1) (by omega) (by omega) (fun e j he X2 Y2 f2 r2 => ?_) (fun i2 o2 L2 hr2 g2 hi2 X2 Y2 f2 r2 s2 => ?_)
      · simp (disch := omega) [w158_92, w158_108, w158_109, rt158, rt158, aw_st, ai_cls, ai_len, ai_p, ai_sw, ai_m, ai_c, ai_at, ai_isI, ai_isJ, ai_isA, ai_ld, ai_1i, ai_2i, ai_2l, ai_cn, ai_j, ai_set, ai_set2, ai_nl, ai_rs, ai_sm, Value.category, hk0, hk1, lits, litb, litm, litm2, List.getElem?_cons_zero, List.getElem?_cons_succ, or_n0, bit_r, fi0, fi1, fi2, fi3, nI_toInt, nI_add, pk_mul, nI_leI, nI_ltI, nI_eq, pk_sub, ib_nI, nI_clamp, va_up_self, va_up_ne, va_up_up, va_up_comm, pk_us, pk_un, upd_up, updL_up, pk_uLs, pk_uLn, b01_1, b01_0, b01_1s, b01_0s, or_b]
        exact hQ1 e j (one_brE k40 ho20 hD8 he) X2 Y2 (f01.tr f2) r2
      · simp (disch := omega) [w158_92, w158_95, w158_96, rt158, rt158, aw_st, ai_cls, ai_len, ai_p, ai_sw, ai_m, ai_c, ai_at, ai_isI, ai_isJ, ai_isA, ai_ld, ai_1i, ai_2i, ai_2l, ai_cn, ai_j, ai_set, ai_set2, ai_nl, ai_rs, ai_sm, Value.category, hk0, hk1, lits, litb, litm, litm2, List.getElem?_cons_zero, List.getElem?_cons_succ, or_n0, bit_r, fi0, fi1, fi2, fi3, nI_toInt, nI_add, pk_mul, nI_leI, nI_ltI, nI_eq, pk_sub, ib_nI, nI_clamp, va_up_self, va_up_ne, va_up_up, va_up_comm, pk_us, pk_un, upd_up, updL_up, pk_uLs, pk_uLn, b01_1, b01_0, b01_1s, b01_0s, or_b]
        rw [x158_98_2, if_pos (by decide)]
        refine Htake (v := 41) r2 (OKc_fn (OKc_h hok5 f1) f2) hi2 (by omega) (fun hn X3 Y3 f3 r3 => ?_) (fun hn X3 Y3 f3 r3 => ?_)
        · simp (disch := omega) [w158_101, w158_104, w158_105, w158_108, w158_109, rt158, rt158, aw_st, ai_cls, ai_len, ai_p, ai_sw, ai_m, ai_c, ai_at, ai_isI, ai_isJ, ai_isA, ai_ld, ai_1i, ai_2i, ai_2l, ai_cn, ai_j, ai_set, ai_set2, ai_nl, ai_rs, ai_sm, Value.category, hk0, hk1, lits, litb, litm, litm2, List.getElem?_cons_zero, List.getElem?_cons_succ, or_n0, bit_r, fi0, fi1, fi2, fi3, nI_toInt, nI_add, pk_mul, nI_leI, nI_ltI, nI_eq, pk_sub, ib_nI, nI_clamp, va_up_self, va_up_ne, va_up_up, va_up_comm, pk_us, pk_un, upd_up, updL_up, pk_uLs, pk_uLn, b01_1, b01_0, b01_1s, b01_0s, or_b]
          exact hQ1 1 i2 (one_brX k40 ho20 hD8 hr2.1 hn hr2.2.1 hr2.2.2) X3 Y3 ((f01.tr f2).tr f3.fn) r3
        · simp (disch := omega) [w158_101, w158_104, w158_105, w158_108, w158_109, rt158, rt158, aw_st, ai_cls, ai_len, ai_p, ai_sw, ai_m, ai_c, ai_at, ai_isI, ai_isJ, ai_isA, ai_ld, ai_1i, ai_2i, ai_2l, ai_cn, ai_j, ai_set, ai_set2, ai_nl, ai_rs, ai_sm, Value.category, hk0, hk1, lits, litb, litm, litm2, List.getElem?_cons_zero, List.getElem?_cons_succ, or_n0, bit_r, fi0, fi1, fi2, fi3, nI_toInt, nI_add, pk_mul, nI_leI, nI_ltI, nI_eq, pk_sub, ib_nI, nI_clamp, va_up_self, va_up_ne, va_up_up, va_up_comm, pk_us, pk_un, upd_up, updL_up, pk_uLs, pk_uLn, b01_1, b01_0, b01_1s, b01_0s, or_b]
          exact hQ2 (cA c i2) o2 L2 (one_br k40 ho20 hD8 hr2.1 hn) (GD_br g2) (cA_le hi2) X3 Y3 ((f01.tr f2).tr f3.fn) r3 (SS_h s2 f3)
    · have e1 : b01 (true = true) = nI 1 := by decide
      have hg : isBg (cY c i) = true := by
        cases q : isBg (cY c i)
        · exact absurd ⟨k40, q⟩ hb1
        · rfl
      have hy2 : cY c i < 21 := by
        unfold isBg isMs at hg
        simp only [Bool.or_eq_true, Bool.and_eq_true, decide_eq_true_eq] at hg
        omega
      rw [hg, e1] at hbe
      have hyI : yI (cY c i) = nI (cY c i) := by unfold yI; rw [if_pos hy2]
      rw [hyI] at hk hbe hk5
      simp (disch := omega) [w158_0, x158_1_2, w158_4, w158_6, w158_9, w158_10, w158_13, w158_14, w158_16, w158_18, w158_21, x158_22_2, x158_25, w158_28, w158_31, w158_32, x158_33_2, w158_36, w158_37, x158_38_14, w158_41, w158_43, w158_46, w158_47, w158_49, w158_52, w158_53, x158_54_2, w158_57, w158_58, w158_59, x158_60_14, w158_63, w158_64, x158_65_14, w158_68, x158_69_2, w158_72, rt158, rt158, aw_st, ai_cls, ai_len, ai_p, ai_sw, ai_m, ai_c, ai_at, ai_isI, ai_isJ, ai_isA, ai_ld, ai_1i, ai_2i, ai_2l, ai_cn, ai_j, ai_set, ai_set2, ai_nl, ai_rs, ai_sm, Value.category, hk0, hk1, lits, litb, litm, litm2, List.getElem?_cons_zero, List.getElem?_cons_succ, or_n0, bit_r, fi0, fi1, fi2, fi3, nI_toInt, nI_add, pk_mul, nI_leI, nI_ltI, nI_eq, pk_sub, ib_nI, nI_clamp, va_up_self, va_up_ne, va_up_up, va_up_comm, pk_us, pk_un, upd_up, updL_up, pk_uLs, pk_uLn, b01_1, b01_0, b01_1s, b01_0s, or_b, h4, hk, k40, hbe, hs.1, show ¬ 20 ≤ o by omega, hD]
      simp (disch := omega) [w158_74, rt158, rt158, aw_st, ai_cls, ai_len, ai_p, ai_sw, ai_m, ai_c, ai_at, ai_isI, ai_isJ, ai_isA, ai_ld, ai_1i, ai_2i, ai_2l, ai_cn, ai_j, ai_set, ai_set2, ai_nl, ai_rs, ai_sm, Value.category, hk0, hk1, lits, litb, litm, litm2, List.getElem?_cons_zero, List.getElem?_cons_succ, or_n0, bit_r, fi0, fi1, fi2, fi3, nI_toInt, nI_add, pk_mul, nI_leI, nI_ltI, nI_eq, pk_sub, ib_nI, nI_clamp, va_up_self, va_up_ne, va_up_up, va_up_comm, pk_us, pk_un, upd_up, updL_up, pk_uLs, pk_uLn, b01_1, b01_0, b01_1s, b01_0s, or_b]
      rw [x158_75_2, if_pos (by decide)]
      refine Hstep h5 hok5 hi (fun X1 Y1 f1 r1 => ?_)
      have f01 := FN_5.tr f1.fn
      by_cases y13 : cY c i = 13
      · simp (disch := omega) [w158_78, w158_80, w158_83, w158_84, w158_85, w158_86, w158_87, w158_88, x158_89_14, w158_92, w158_95, w158_96, x158_98_2, w158_101, w158_104, w158_105, w158_108, w158_109, w158_110, w158_112, w158_114, w158_117, w158_118, w158_119, w158_120, w158_121, w158_122, rt158, rt158, aw_st, ai_cls, ai_len, ai_p, ai_sw, ai_m, ai_c, ai_at, ai_isI, ai_isJ, ai_isA, ai_ld, ai_1i, ai_2i, ai_2l, ai_cn, ai_j, ai_set, ai_set2, ai_nl, ai_rs, ai_sm, Value.category, hk0, hk1, lits, litb, litm, litm2, List.getElem?_cons_zero, List.getElem?_cons_succ, or_n0, bit_r, fi0, fi1, fi2, fi3, nI_toInt, nI_add, pk_mul, nI_leI, nI_ltI, nI_eq, pk_sub, ib_nI, nI_clamp, va_up_self, va_up_ne, va_up_up, va_up_comm, pk_us, pk_un, upd_up, updL_up, pk_uLs, pk_uLn, b01_1, b01_0, b01_1s, b01_0s, or_b, y13]
        rw [x158_123_14, if_pos (by decide)]
        refine one5 X1 Y1 (cA c i) (o + 1) L _ (TN_fn ht5 f1.fn) r1 (OKc_h hok5 f1) (cA_le hi) (SS_h hs5 f1) (by omega) (by omega) (fun e j he X2 Y2 f2 r2 => ?_) (fun i2 o2 L2 hr2 g2 hi2 X2 Y2 f2 r2 s2 => ?_)
        · simp (disch := omega) [w158_126, w158_144, w158_145, rt158, rt158, aw_st, ai_cls, ai_len, ai_p, ai_sw, ai_m, ai_c, ai_at, ai_isI, ai_isJ, ai_isA, ai_ld, ai_1i, ai_2i, ai_2l, ai_cn, ai_j, ai_set, ai_set2, ai_nl, ai_rs, ai_sm, Value.category, hk0, hk1, lits, litb, litm, litm2, List.getElem?_cons_zero, List.getElem?_cons_succ, or_n0, bit_r, fi0, fi1, fi2, fi3, nI_toInt, nI_add, pk_mul, nI_leI, nI_ltI, nI_eq, pk_sub, ib_nI, nI_clamp, va_up_self, va_up_ne, va_up_up, va_up_comm, pk_us, pk_un, upd_up, updL_up, pk_uLs, pk_uLn, b01_1, b01_0, b01_1s, b01_0s, or_b]
          exact hQ1 e j (one_notE y13 ho20 hD8 he) X2 Y2 (f01.tr f2) r2
        · have hlen2 := GD_len g2
          have hlt := g2.1
          have hle := g2.2.1
          have hb' : ∀ (Q : List Value → Nat → Nat → ai_M → Prop), aw ET G (d + 5) 161 0 [some (.ref 14), some (.int (nI 13)), some (.int (nI 0)), some (.int (nI 0))] [] 231 sl (mem X2 Y2) Q = Q [.int (nI 1)] 231 sl (mem (adX X2 L2.length (opc 13)) Y2) := fun Q => addStep_eq (z := opc 13) s2.2.1 (by omega)
          simp (disch := omega) [w158_126, w158_129, w158_130, w158_132, w158_133, x158_134_14, w158_137, w158_140, w158_141, w158_144, w158_145, rt158, rt158, aw_st, ai_cls, ai_len, ai_p, ai_sw, ai_m, ai_c, ai_at, ai_isI, ai_isJ, ai_isA, ai_ld, ai_1i, ai_2i, ai_2l, ai_cn, ai_j, ai_set, ai_set2, ai_nl, ai_rs, ai_sm, Value.category, hk0, hk1, lits, litb, litm, litm2, List.getElem?_cons_zero, List.getElem?_cons_succ, or_n0, bit_r, fi0, fi1, fi2, fi3, nI_toInt, nI_add, pk_mul, nI_leI, nI_ltI, nI_eq, pk_sub, ib_nI, nI_clamp, va_up_self, va_up_ne, va_up_up, va_up_comm, pk_us, pk_un, upd_up, updL_up, pk_uLs, pk_uLn, b01_1, b01_0, b01_1s, b01_0s, or_b, hb']
          exact hQ2 i2 o2 (L2 ++ [opc 13]) (one_not y13 ho20 hD8 hr2) (GD_not g2) hi2 _ Y2 ((f01.tr f2).tr FN_ad) (by rw [ad_2]; exact r2) (SS_ad s2)
      · have hm := fun (Q : List Value → Nat → Nat → ai_M → Prop) => isMs_eq (G := G) (d := d + 5) (sl := sl) (Q := Q) (X := X1) (Y := Y1) (y := cY c i) cY_le
        rw [hyI] at hm
        cases ms : isMs (cY c i)
        · have e0 : b01 (false = true) = nI 0 := by decide
          rw [ms, e0] at hm
          simp (disch := omega) [w158_78, w158_80, w158_110, w158_112, w158_114, w158_117, w158_118, w158_119, w158_120, w158_121, w158_122, x158_123_14, w158_126, w158_129, w158_130, w158_132, w158_133, x158_134_14, w158_137, w158_140, w158_141, w158_144, w158_145, w158_146, x158_148, w158_151, w158_154, w158_155, w158_156, x158_158_14, w158_161, w158_164, w158_165, w158_166, w158_167, rt158, rt158, aw_st, ai_cls, ai_len, ai_p, ai_sw, ai_m, ai_c, ai_at, ai_isI, ai_isJ, ai_isA, ai_ld, ai_1i, ai_2i, ai_2l, ai_cn, ai_j, ai_set, ai_set2, ai_nl, ai_rs, ai_sm, Value.category, hk0, hk1, lits, litb, litm, litm2, List.getElem?_cons_zero, List.getElem?_cons_succ, or_n0, bit_r, fi0, fi1, fi2, fi3, nI_toInt, nI_add, pk_mul, nI_leI, nI_ltI, nI_eq, pk_sub, ib_nI, nI_clamp, va_up_self, va_up_ne, va_up_up, va_up_comm, pk_us, pk_un, upd_up, updL_up, pk_uLs, pk_uLn, b01_1, b01_0, b01_1s, b01_0s, or_b, y13, hm]
          rw [x158_169_14, if_pos (by decide)]
          refine plain_wp (d := d + 1) (nm := nm) (P := P) (S := S) (o := o + 1) (TN_fn ht5 f1.fn) r1 (OKc_h hok5 f1) (cA_le hi) (SS_h hs5 f1) (by omega) hg ms y13 (fun e j s X2 Y2 f2 r2 => ?_) (fun i2 z s hi2 hz n1 n2 X2 Y2 f2 r2 s2 => ?_)
          · simp (disch := omega) [w158_172, rt158, rt158, aw_st, ai_cls, ai_len, ai_p, ai_sw, ai_m, ai_c, ai_at, ai_isI, ai_isJ, ai_isA, ai_ld, ai_1i, ai_2i, ai_2l, ai_cn, ai_j, ai_set, ai_set2, ai_nl, ai_rs, ai_sm, Value.category, hk0, hk1, lits, litb, litm, litm2, List.getElem?_cons_zero, List.getElem?_cons_succ, or_n0, bit_r, fi0, fi1, fi2, fi3, nI_toInt, nI_add, pk_mul, nI_leI, nI_ltI, nI_eq, pk_sub, ib_nI, nI_clamp, va_up_self, va_up_ne, va_up_up, va_up_comm, pk_us, pk_un, upd_up, updL_up, pk_uLs, pk_uLn, b01_1, b01_0, b01_1s, b01_0s, or_b]
            exact hQ1 e j (one_leafE k40 hg y13 ho20 hD8 s) X2 Y2 (f01.tr f2) r2
          · simp (disch := omega) [w158_172, rt158, rt158, aw_st, ai_cls, ai_len, ai_p, ai_sw, ai_m, ai_c, ai_at, ai_isI, ai_isJ, ai_isA, ai_ld, ai_1i, ai_2i, ai_2l, ai_cn, ai_j, ai_set, ai_set2, ai_nl, ai_rs, ai_sm, Value.category, hk0, hk1, lits, litb, litm, litm2, List.getElem?_cons_zero, List.getElem?_cons_succ, or_n0, bit_r, fi0, fi1, fi2, fi3, nI_toInt, nI_add, pk_mul, nI_leI, nI_ltI, nI_eq, pk_sub, ib_nI, nI_clamp, va_up_self, va_up_ne, va_up_up, va_up_comm, pk_us, pk_un, upd_up, updL_up, pk_uLs, pk_uLn, b01_1, b01_0, b01_1s, b01_0s, or_b]
            exact hQ2 i2 (o + 1) (L ++ [z]) (one_leaf k40 hg y13 ho20 hD8 s) (GD_leaf (by omega) hz n1 n2) hi2 X2 Y2 (f01.tr f2) r2 s2
        · rw [ms, e1] at hm
          simp (disch := omega) [w158_78, w158_80, w158_110, w158_112, w158_114, w158_117, w158_118, w158_119, w158_120, w158_121, w158_122, x158_123_14, w158_126, w158_129, w158_130, w158_132, w158_133, x158_134_14, w158_137, w158_140, w158_141, w158_144, w158_145, w158_146, x158_148, w158_151, w158_154, w158_155, w158_156, rt158, rt158, aw_st, ai_cls, ai_len, ai_p, ai_sw, ai_m, ai_c, ai_at, ai_isI, ai_isJ, ai_isA, ai_ld, ai_1i, ai_2i, ai_2l, ai_cn, ai_j, ai_set, ai_set2, ai_nl, ai_rs, ai_sm, Value.category, hk0, hk1, lits, litb, litm, litm2, List.getElem?_cons_zero, List.getElem?_cons_succ, or_n0, bit_r, fi0, fi1, fi2, fi3, nI_toInt, nI_add, pk_mul, nI_leI, nI_ltI, nI_eq, pk_sub, ib_nI, nI_clamp, va_up_self, va_up_ne, va_up_up, va_up_comm, pk_us, pk_un, upd_up, updL_up, pk_uLs, pk_uLn, b01_1, b01_0, b01_1s, b01_0s, or_b, y13, hm]
          rw [x158_158_14, if_pos (by decide)]
          refine meas_wp (d := d + 1) (nm := nm) (P := P) (S := S) (o := o + 1) r1 (OKc_h hok5 f1) (cA_le hi) (SS_h hs5 f1) (by omega) ms (fun e j s X2 Y2 f2 r2 => ?_) (fun i2 z s hi2 hz n1 n2 X2 Y2 f2 r2 s2 => ?_)
          · simp (disch := omega) [w158_161, w158_172, rt158, rt158, aw_st, ai_cls, ai_len, ai_p, ai_sw, ai_m, ai_c, ai_at, ai_isI, ai_isJ, ai_isA, ai_ld, ai_1i, ai_2i, ai_2l, ai_cn, ai_j, ai_set, ai_set2, ai_nl, ai_rs, ai_sm, Value.category, hk0, hk1, lits, litb, litm, litm2, List.getElem?_cons_zero, List.getElem?_cons_succ, or_n0, bit_r, fi0, fi1, fi2, fi3, nI_toInt, nI_add, pk_mul, nI_leI, nI_ltI, nI_eq, pk_sub, ib_nI, nI_clamp, va_up_self, va_up_ne, va_up_up, va_up_comm, pk_us, pk_un, upd_up, updL_up, pk_uLs, pk_uLn, b01_1, b01_0, b01_1s, b01_0s, or_b]
            exact hQ1 e j (one_leafE k40 hg y13 ho20 hD8 s) X2 Y2 (f01.tr f2) r2
          · simp (disch := omega) [w158_161, w158_172, rt158, rt158, aw_st, ai_cls, ai_len, ai_p, ai_sw, ai_m, ai_c, ai_at, ai_isI, ai_isJ, ai_isA, ai_ld, ai_1i, ai_2i, ai_2l, ai_cn, ai_j, ai_set, ai_set2, ai_nl, ai_rs, ai_sm, Value.category, hk0, hk1, lits, litb, litm, litm2, List.getElem?_cons_zero, List.getElem?_cons_succ, or_n0, bit_r, fi0, fi1, fi2, fi3, nI_toInt, nI_add, pk_mul, nI_leI, nI_ltI, nI_eq, pk_sub, ib_nI, nI_clamp, va_up_self, va_up_ne, va_up_up, va_up_comm, pk_us, pk_un, upd_up, updL_up, pk_uLs, pk_uLn, b01_1, b01_0, b01_1s, b01_0s, or_b]
            exact hQ2 i2 (o + 1) (L ++ [z]) (one_leaf k40 hg y13 ho20 hD8 s) (GD_leaf (by omega) hz n1 n2) hi2 X2 Y2 (f01.tr f2) r2 s2
end SNF
