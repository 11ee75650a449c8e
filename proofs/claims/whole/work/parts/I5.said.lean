/-! SAID: the class, in all -/
section SDC
variable {G : ai_G} {d sl : Nat} {Y : mY} {P S o : Nat} {L : List SC}
def stkM (R : Nat → Int32) : List Nat → Prop
  | [] => True
  | a :: r => R r.length = nI a ∧ stkM R r
theorem stkM_cg {R R' : Nat → Int32} : ∀ (s : List Nat), (∀ q, q < s.length → R' q = R q) → stkM R s → stkM R' s := by
  intro s
  induction s with
  | nil => intro _ _; trivial
  | cons a r ih =>
    intro h g
    exact ⟨by rw [h r.length (Nat.lt_succ_self _)]; exact g.1, ih (fun q hq => h q (Nat.lt_succ_of_lt hq)) g.2⟩
theorem stkM_up {R : Nat → Int32} {s : List Nat} {m : Nat} (h : stkM R s) : stkM (upd R s.length (nI m)) (m :: s) := ⟨pk_us, stkM_cg s (fun q hq => pk_un (by omega)) h⟩
theorem dec1 (n : Nat) : nI (n + 1) + mi1 = nI n := by
  rw [← litm, ← Int32.sub_eq_add_neg, pk_sub (by omega)]
  rfl
theorem joined_eq {k : Nat} {M : ai_M} {v a b : Nat} (hv : v = 12 ∨ v = 11) {Q : List Value → Nat → Nat → ai_M → Prop} : aw ET G d 166 0 [some (.int (nI v)), some (.int (nI a)), some (.int (nI b))] [] k sl M Q = Q [.int (nI (if v = 12 then a &&& b else a ||| b))] k sl M := by
  rcases hv with rfl | rfl
  · simp (disch := omega) [w166_0, w166_1, w166_3, w166_6, w166_7, w166_8, w166_9, w166_12, w166_13, w166_14, w166_15, rt166, rt166, aw_st, ai_cls, ai_len, ai_p, ai_sw, ai_m, ai_c, ai_at, ai_isI, ai_isJ, ai_isA, ai_ld, ai_1i, ai_2i, ai_2l, ai_cn, ai_j, ai_set, ai_set2, ai_nl, ai_rs, ai_sm, Value.category, hk0, hk1, lits, litb, litm, litm2, List.getElem?_cons_zero, List.getElem?_cons_succ, or_n0, bit_r, fi0, fi1, fi2, fi3, nI_toInt, nI_add, pk_mul, nI_leI, nI_ltI, nI_eq, pk_sub, ib_nI, nI_clamp, va_up_self, va_up_ne, va_up_up, va_up_comm, pk_us, pk_un, upd_up, updL_up, pk_uLs, pk_uLn, b01_1, b01_0, b01_1s, b01_0s, or_b, nI_and]
  · simp (disch := omega) [w166_0, w166_1, w166_3, w166_6, w166_7, w166_8, w166_9, w166_12, w166_13, w166_14, w166_15, rt166, rt166, aw_st, ai_cls, ai_len, ai_p, ai_sw, ai_m, ai_c, ai_at, ai_isI, ai_isJ, ai_isA, ai_ld, ai_1i, ai_2i, ai_2l, ai_cn, ai_j, ai_set, ai_set2, ai_nl, ai_rs, ai_sm, Value.category, hk0, hk1, lits, litb, litm, litm2, List.getElem?_cons_zero, List.getElem?_cons_succ, or_n0, bit_r, fi0, fi1, fi2, fi3, nI_toInt, nI_add, pk_mul, nI_leI, nI_ltI, nI_eq, pk_sub, ib_nI, nI_clamp, va_up_self, va_up_ne, va_up_up, va_up_comm, pk_us, pk_un, upd_up, updL_up, pk_uLs, pk_uLn, b01_1, b01_0, b01_1s, b01_0s, or_b, nI_or]
set_option maxHeartbeats 16000000 in
theorem whom_loop {X0 : mX} {Q : List Value → Nat → Nat → ai_M → Prop} (hP8 : P ≤ 8) (hS8 : S ≤ 8) (hk : X0 47 7 = nI P) (hL : L.length ≤ 40) (hkp : SK X0 L o) (hz : ∀ z ∈ L, okZ P S z) (hQ : ∀ X', (∀ k, ¬ k = 60 → X' k = X0 k) → Q [.int (nI ((evM P (lv X0 61) (cv X0 47) L []).headD 0))] 231 sl (mem X' Y)) : ∀ (rest pre : List SC) (ms : List Nat) (X : mX) (v5 : Option Value), pre ++ rest = L → (∀ k, ¬ k = 60 → X k = X0 k) → stkM (X 60) ms → okM P ms → hgS rest ms.length = some 1 → ms.length ≤ pre.length → evM P (lv X0 61) (cv X0 47) rest ms = evM P (lv X0 61) (cv X0 47) L [] → aw ET G (d + 4) 165 17 [some (.ref 56), some (.ref 61), some (.int (nI (2 ^ P - 1))), some (.int (nI ms.length)), some (.int (nI pre.length)), v5] [] 231 sl (mem X Y) Q := by
  obtain ⟨h56, h564, hrow⟩ := hkp
  intro rest
  induction rest with
  | nil =>
    intro pre ms X v5 e hX hst hok hh hle hev
    have el : pre = L := by rw [← e, List.append_nil]
    subst el
    have h4 : X 56 4 = nI pre.length := by rw [hX 56 (by omega)]; exact h564
    injection hh with hh
    match ms, hh with
    | [m], _ =>
      have h60 : X 60 0 = nI m := hst.1
      have := hQ X hX
      have e2 : (evM P (lv X0 61) (cv X0 47) pre []).headD 0 = m := by rw [← hev]; rfl
      rw [e2] at this
      rw [w165_17]
      simp (disch := omega) [w165_19, x165_20_56, w165_23, w165_150, x165_151_56, w165_154, w165_155, w165_156, rt165, rt165, aw_st, ai_cls, ai_len, ai_p, ai_sw, ai_m, ai_c, ai_at, ai_isI, ai_isJ, ai_isA, ai_ld, ai_1i, ai_2i, ai_2l, ai_cn, ai_j, ai_set, ai_set2, ai_nl, ai_rs, ai_sm, Value.category, hk0, hk1, lits, litb, litm, litm2, List.getElem?_cons_zero, List.getElem?_cons_succ, or_n0, bit_r, fi0, fi1, fi2, fi3, nI_toInt, nI_add, pk_mul, nI_leI, nI_ltI, nI_eq, pk_sub, ib_nI, nI_clamp, va_up_self, va_up_ne, va_up_up, va_up_comm, pk_us, pk_un, upd_up, updL_up, pk_uLs, pk_uLn, b01_1, b01_0, b01_1s, b01_0s, or_b, h4, mm60, h60]
      exact this
  | cons z r ih =>
    intro pre ms X v5 e hX hst hok hh hle hev
    have elen : pre.length + (r.length + 1) = L.length := by rw [← e, List.length_append]; rfl
    have hzz : okZ P S z := hz z (by rw [← e]; simp)
    have hg : L.getD pre.length (0, 0, 0) = z := by rw [← e]; simp [List.getD_eq_getElem?_getD]
    obtain ⟨g1, g2, g3⟩ := hrow pre.length (by omega)
    rw [hg] at g1 g2 g3
    have h4 : X 56 4 = nI L.length := by rw [hX 56 (by omega)]; exact h564
    have h57 : X 57 pre.length = nI z.1 := by rw [hX 57 (by omega)]; exact g1
    have h58 : X 58 pre.length = nI z.2.1 := by rw [hX 58 (by omega)]; exact g2
    have h59 : X 59 pre.length = nI z.2.2 := by rw [hX 59 (by omega)]; exact g3
    have e' : (pre ++ [z]) ++ r = L := by rw [List.append_assoc]; exact e
    have el' : (pre ++ [z]).length = pre.length + 1 := by rw [List.length_append]; rfl
    have hno : ¬ L.length ≤ pre.length := by omega
    rw [hgS_cons] at hh
    rw [evM_cons] at hev
    have z21 : z.1 < 24 := by
      rcases hzz with h | h | h | h | h | h | h | h | h
      · rw [h]; decide
      · rw [h]; decide
      · rw [h]; decide
      · rw [h]; decide
      · rw [h]; decide
      · rw [h]; decide
      · omega
      · omega
      · have := h.1
        unfold isMs at this
        simp only [Bool.and_eq_true, decide_eq_true_eq] at this
        omega
    rw [w165_17]
    by_cases q13 : z.1 = 13
    · rw [if_pos q13] at hh hev
      rw [q13] at h57
      match ms, hst, hok, hh, hle, hev with
      | [], _, _, hh, _, _ => rw [if_neg (by decide)] at hh; cases hh
      | a :: q, hst, hok, hh, hle, hev =>
        rw [if_pos (by show 1 ≤ q.length + 1; omega)] at hh
        have hle : q.length + 1 ≤ pre.length := hle
        have ha : a < 2 ^ P := hok a (List.mem_cons_self)
        have h60 : X 60 q.length = nI a := hst.1
        have hnp := not_P hP8 ha
        simp (disch := omega) [w165_19, x165_20_56, w165_23, w165_26, x165_27_56, w165_30, w165_32, w165_33, w165_35, w165_37, w165_39, w165_42, w165_43, w165_44, w165_47, x165_48_56, w165_51, w165_52, w165_53, w165_54, w165_55, x165_56_56, w165_59, w165_60, w165_61, w165_62, w165_63, w165_64, w165_65, w165_66, w165_67, w165_144, w165_147, rt165, rt165, aw_st, ai_cls, ai_len, ai_p, ai_sw, ai_m, ai_c, ai_at, ai_isI, ai_isJ, ai_isA, ai_ld, ai_1i, ai_2i, ai_2l, ai_cn, ai_j, ai_set, ai_set2, ai_nl, ai_rs, ai_sm, Value.category, hk0, hk1, lits, litb, litm, litm2, List.getElem?_cons_zero, List.getElem?_cons_succ, or_n0, bit_r, fi0, fi1, fi2, fi3, nI_toInt, nI_add, pk_mul, nI_leI, nI_ltI, nI_eq, pk_sub, ib_nI, nI_clamp, va_up_self, va_up_ne, va_up_up, va_up_comm, pk_us, pk_un, upd_up, updL_up, pk_uLs, pk_uLn, b01_1, b01_0, b01_1s, b01_0s, or_b, h4, hno, mm57, mm60, mu60, h57, h60, hnp]
        have st2 : stkM (va_up X 60 (upd (X 60) q.length (nI (ntM P a))) 60) (ntM P a :: q) := by rw [va_up_self]; exact stkM_up hst.2
        have := ih (pre ++ [z]) (ntM P a :: q) _ (some (.int (nI 13))) e' (fun k hk => by rw [va_up_ne _ _ hk]; exact hX k hk) st2 (fun m hm => by
          rcases List.mem_cons.mp hm with rfl | hm
          · exact ntM_lt
          · exact hok m (List.mem_cons_of_mem _ hm)) hh (by rw [el']; show q.length + 1 ≤ _; omega) hev
        rw [el'] at this
        exact this
    · rw [if_neg q13] at hh hev
      have n13 : ¬ nI z.1 = nI 13 := by rw [nI_eq (by omega) (by omega)]; exact q13
      by_cases q2 : z.1 = 12 ∨ z.1 = 11
      · rw [if_pos q2] at hh
        match ms, hst, hok, hh, hle, hev with
        | [], _, _, hh, _, _ => rw [if_neg (by decide)] at hh; cases hh
        | [a], _, _, hh, _, _ => rw [if_neg (show ¬ 2 ≤ [a].length from (by show ¬ 2 ≤ 1; omega))] at hh; cases hh
        | b :: a :: q, hst, hok, hh, hle, hev =>
          rw [if_pos (by show 2 ≤ q.length + 1 + 1; omega)] at hh
          have hle : q.length + 1 + 1 ≤ pre.length := hle
          have hh : hgS r (q.length + 1) = some 1 := hh
          have hb : b < 2 ^ P := hok b (List.mem_cons_self)
          have ha : a < 2 ^ P := hok a (List.mem_cons_of_mem _ (List.mem_cons_self))
          have hq : ∀ m ∈ q, m < 2 ^ P := fun m hm => hok m (List.mem_cons_of_mem _ (List.mem_cons_of_mem _ hm))
          have h60 : X 60 (q.length + 1) = nI b := hst.1
          have h60b : X 60 q.length = nI a := hst.2.1
          have fin : ∀ (v : Nat), (v = 12 ∨ v = 11) → z.1 = v → aw ET G (d + 4) 165 84 [some (.ref 56), some (.ref 61), some (.int (nI (2 ^ P - 1))), some (.int (nI (q.length + 1 + 1))), some (.int (nI pre.length)), some (.int (nI v))] [] 231 sl (mem X Y) Q := by
            intro v hv hzv
            have hj := fun (Q : List Value → Nat → Nat → ai_M → Prop) => joined_eq (G := G) (d := d + 3) (sl := sl) (Q := Q) (k := 231) (M := mem X Y) (v := v) (a := a) (b := b) hv
            have hd := dec1 (q.length + 1)
            simp (disch := omega) [w165_84, w165_85, w165_86, w165_89, w165_92, x165_93_56, w165_96, w165_97, w165_98, w165_99, w165_101, x165_102_56, w165_105, w165_106, w165_107, w165_108, w165_109, x165_110_56, w165_113, w165_114, x165_115, w165_118, w165_119, w165_144, w165_147, rt165, rt165, aw_st, ai_cls, ai_len, ai_p, ai_sw, ai_m, ai_c, ai_at, ai_isI, ai_isJ, ai_isA, ai_ld, ai_1i, ai_2i, ai_2l, ai_cn, ai_j, ai_set, ai_set2, ai_nl, ai_rs, ai_sm, Value.category, hk0, hk1, lits, litb, litm, litm2, List.getElem?_cons_zero, List.getElem?_cons_succ, or_n0, bit_r, fi0, fi1, fi2, fi3, nI_toInt, nI_add, pk_mul, nI_leI, nI_ltI, nI_eq, pk_sub, ib_nI, nI_clamp, va_up_self, va_up_ne, va_up_up, va_up_comm, pk_us, pk_un, upd_up, updL_up, pk_uLs, pk_uLn, b01_1, b01_0, b01_1s, b01_0s, or_b, mm60, mu60, h60, h60b, hd, hj]
            have st2 : stkM (va_up X 60 (upd (X 60) q.length (nI (if v = 12 then a &&& b else a ||| b))) 60) ((if v = 12 then a &&& b else a ||| b) :: q) := by rw [va_up_self]; exact stkM_up hst.2.2
            have := ih (pre ++ [z]) ((if v = 12 then a &&& b else a ||| b) :: q) _ (some (.int (nI v))) e' (fun k hk => by rw [va_up_ne _ _ hk]; exact hX k hk) st2 (fun m hm => by
              rcases List.mem_cons.mp hm with rfl | hm
              · split
                · exact Nat.and_lt_two_pow a hb
                · exact Nat.or_lt_two_pow ha hb
              · exact hq m hm) hh (by rw [el']; show q.length + 1 ≤ _; omega) (by
              rcases hv with rfl | rfl
              · rw [if_pos hzv] at hev
                rw [if_pos rfl]
                exact hev
              · rw [if_neg (by omega), if_pos hzv] at hev
                rw [if_neg (by decide)]
                exact hev)
            rw [el'] at this
            exact this
          rcases q2 with q2 | q2
          · rw [q2] at h57
            have := fin 12 (Or.inl rfl) q2
            simp (disch := omega) [w165_19, x165_20_56, w165_23, w165_26, x165_27_56, w165_30, w165_32, w165_33, w165_35, w165_37, w165_39, w165_70, w165_72, w165_74, rt165, rt165, aw_st, ai_cls, ai_len, ai_p, ai_sw, ai_m, ai_c, ai_at, ai_isI, ai_isJ, ai_isA, ai_ld, ai_1i, ai_2i, ai_2l, ai_cn, ai_j, ai_set, ai_set2, ai_nl, ai_rs, ai_sm, Value.category, hk0, hk1, lits, litb, litm, litm2, List.getElem?_cons_zero, List.getElem?_cons_succ, or_n0, bit_r, fi0, fi1, fi2, fi3, nI_toInt, nI_add, pk_mul, nI_leI, nI_ltI, nI_eq, pk_sub, ib_nI, nI_clamp, va_up_self, va_up_ne, va_up_up, va_up_comm, pk_us, pk_un, upd_up, updL_up, pk_uLs, pk_uLn, b01_1, b01_0, b01_1s, b01_0s, or_b, h4, hno, mm57, h57]
            exact this
          · rw [q2] at h57
            have := fin 11 (Or.inr rfl) q2
            simp (disch := omega) [w165_19, x165_20_56, w165_23, w165_26, x165_27_56, w165_30, w165_32, w165_33, w165_35, w165_37, w165_39, w165_70, w165_72, w165_74, w165_77, w165_79, w165_81, rt165, rt165, aw_st, ai_cls, ai_len, ai_p, ai_sw, ai_m, ai_c, ai_at, ai_isI, ai_isJ, ai_isA, ai_ld, ai_1i, ai_2i, ai_2l, ai_cn, ai_j, ai_set, ai_set2, ai_nl, ai_rs, ai_sm, Value.category, hk0, hk1, lits, litb, litm, litm2, List.getElem?_cons_zero, List.getElem?_cons_succ, or_n0, bit_r, fi0, fi1, fi2, fi3, nI_toInt, nI_add, pk_mul, nI_leI, nI_ltI, nI_eq, pk_sub, ib_nI, nI_clamp, va_up_self, va_up_ne, va_up_up, va_up_comm, pk_us, pk_un, upd_up, updL_up, pk_uLs, pk_uLn, b01_1, b01_0, b01_1s, b01_0s, or_b, h4, hno, mm57, h57]
            exact this
      · rw [if_neg q2] at hh
        rw [if_neg (fun q => q2 (Or.inl q)), if_neg (fun q => q2 (Or.inr q))] at hev
        have m12 : ¬ z.1 = 12 := fun q => q2 (Or.inl q)
        have m11 : ¬ z.1 = 11 := fun q => q2 (Or.inr q)
        have n12 : ¬ nI z.1 = nI 12 := by rw [nI_eq (by omega) (by omega)]; exact fun q => q2 (Or.inl q)
        have n11 : ¬ nI z.1 = nI 11 := by rw [nI_eq (by omega) (by omega)]; exact fun q => q2 (Or.inr q)
        have elv : lv X 61 = lv X0 61 := lv_eq (fun k h1 h2 => hX k (by omega))
        have ecv : cv X 47 = cv X0 47 := cv_eq (fun k h1 h2 => hX k (by omega))
        have hso := fun (Q : List Value → Nat → Nat → ai_M → Prop) => setOf_eq (G := G) (d := d) (sl := sl) (Q := Q) (X := X) (Y := Y) (P := P) (S := S) (z := z) (i := pre.length) hP8 hS8 (by rw [hX 47 (by omega)]; exact hk) (okZ_lf hzz q13 q2) (by omega) h57 h58 h59
        rw [elv, ecv] at hso
        simp (disch := omega) [w165_19, x165_20_56, w165_23, w165_26, x165_27_56, w165_30, w165_32, w165_33, w165_35, w165_37, w165_39, w165_70, w165_72, w165_74, w165_77, w165_79, w165_81, w165_122, w165_123, w165_125, w165_128, x165_129_56, w165_132, w165_133, w165_134, w165_135, x165_137_56, w165_140, w165_141, w165_144, w165_147, rt165, rt165, aw_st, ai_cls, ai_len, ai_p, ai_sw, ai_m, ai_c, ai_at, ai_isI, ai_isJ, ai_isA, ai_ld, ai_1i, ai_2i, ai_2l, ai_cn, ai_j, ai_set, ai_set2, ai_nl, ai_rs, ai_sm, Value.category, hk0, hk1, lits, litb, litm, litm2, List.getElem?_cons_zero, List.getElem?_cons_succ, or_n0, bit_r, fi0, fi1, fi2, fi3, nI_toInt, nI_add, pk_mul, nI_leI, nI_ltI, nI_eq, pk_sub, ib_nI, nI_clamp, va_up_self, va_up_ne, va_up_up, va_up_comm, pk_us, pk_un, upd_up, updL_up, pk_uLs, pk_uLn, b01_1, b01_0, b01_1s, b01_0s, or_b, h4, hno, mm57, mm60, mu60, h57, hso, q13, m12, m11, show ¬ 40 ≤ ms.length by omega]
        have st2 : stkM (va_up X 60 (upd (X 60) ms.length (nI (mkM (lfT (lv X0 61) (cv X0 47) z) P))) 60) (mkM (lfT (lv X0 61) (cv X0 47) z) P :: ms) := by rw [va_up_self]; exact stkM_up hst
        have := ih (pre ++ [z]) (mkM (lfT (lv X0 61) (cv X0 47) z) P :: ms) _ (some (.int (nI z.1))) e' (fun k hk => by rw [va_up_ne _ _ hk]; exact hX k hk) st2 (fun m hm => by
          rcases List.mem_cons.mp hm with rfl | hm
          · exact mkM_lt P
          · exact hok m hm) hh (by rw [el']; show ms.length + 1 ≤ _; omega) hev
        rw [el'] at this
        exact this
end SDC
