/-! SAID: the reference, II -/
section SDF
variable {G : ai_G} {d sl : Nat} {Y : mY} {P S o : Nat} {L : List SC} {l k : Nat → Nat → Int32}
def stkT (p : Nat) (R : Nat → Int32) : List Nat → Prop
  | [] => True
  | a :: r => R r.length = b01 (a.testBit p = true) ∧ stkT p R r
theorem stkT_cg {p : Nat} {R R' : Nat → Int32} : ∀ (s : List Nat), (∀ q, q < s.length → R' q = R q) → stkT p R s → stkT p R' s := by
  intro s
  induction s with
  | nil => intro _ _; trivial
  | cons a r ih =>
    intro h g
    exact ⟨by rw [h r.length (Nat.lt_succ_self _)]; exact g.1, ih (fun q hq => h q (Nat.lt_succ_of_lt hq)) g.2⟩
theorem stkT_up {p : Nat} {R : Nat → Int32} {s : List Nat} {m : Nat} (h : stkT p R s) : stkT p (upd R s.length (b01 (m.testBit p = true))) (m :: s) := ⟨pk_us, stkT_cg s (fun q hq => pk_un (by omega)) h⟩
theorem nar0 : ai_nar 2 (nI 0) = nI 0 := by decide
theorem nar_b {q : Prop} [Decidable q] : ai_nar 2 (b01 q) = b01 q := by
  unfold b01
  split
  · exact nar2
  · exact nar0
theorem rkc_lf {z : SC} (h : isLfZ P S z) : rkc z.1 < 10 := by
  rcases h with (rfl | rfl | rfl) | h | h | h
  · decide
  · decide
  · decide
  · rw [h.1]; decide
  · rw [h.1]; decide
  · have := h.1
    unfold isMs at this
    simp only [Bool.and_eq_true, decide_eq_true_eq] at this
    unfold rkc
    repeat' split
    all_goals omega
set_option maxHeartbeats 16000000 in
set_option maxRecDepth 4000 in
theorem isSaid_loop {X0 : mX} {p : Nat} {Q : List Value → Nat → Nat → ai_M → Prop} (hG : G.1 = false) (hl : LSb (X0 201) l) (hk : KS (X0 201) k P S) (hp : p < P) (hL : L.length ≤ 40) (hkp : SKr X0 L) (hz : ∀ z ∈ L, okZ P S z) (hQ : ∀ X', (∀ k, ¬ k = 226 → X' k = X0 k) → Q [.int (b01 (((evM P l k L []).headD 0).testBit p = true))] 231 sl (mem X' Y)) : ∀ (rest pre : List SC) (ms : List Nat) (X : mX) (v4 : Option Value), pre ++ rest = L → (∀ k, ¬ k = 226 → X k = X0 k) → stkT p (X 226) ms → okM P ms → hgS rest ms.length = some 1 → ms.length ≤ pre.length → evM P l k rest ms = evM P l k L [] → aw ET G (d + 2) 284 4 [some (.ref 199), some (.int (nI p)), some (.int (nI ms.length)), some (.int (nI pre.length)), v4] [] 231 sl (mem X Y) Q := by
  obtain ⟨h257, hrow⟩ := hkp
  have hP8 : P ≤ 8 := hk.1
  intro rest
  induction rest with
  | nil =>
    intro pre ms X v5 e hX hst hok hh hle hev
    have el : pre = L := by rw [← e, List.append_nil]
    subst el
    have h4 : X 201 257 = nI pre.length := by rw [hX 201 (by omega)]; exact h257
    injection hh with hh
    match ms, hh with
    | [m], _ =>
      have h60 : X 226 0 = b01 (m.testBit p = true) := hst.1
      have := hQ X hX
      have e2 : (evM P l k pre []).headD 0 = m := by rw [← hev]; rfl
      rw [e2] at this
      rw [w284_4]
      simp (disch := omega) [w284_5, x284_6, w284_9, w284_12, w284_13, w284_212, x284_213, w284_216, w284_217, w284_218, rt284, rt284, aw_st, ai_cls, ai_len, ai_p, ai_sw, ai_m, ai_c, ai_at, ai_isI, ai_isJ, ai_isA, ai_ld, ai_1i, ai_2i, ai_2l, ai_cn, ai_j, ai_set, ai_set2, ai_nl, ai_rs, ai_sm, Value.category, hk0, hk1, lits, litb, litm, litm2, List.getElem?_cons_zero, List.getElem?_cons_succ, or_n0, bit_r, fi0, fi1, fi2, fi3, nI_toInt, nI_add, pk_mul, nI_leI, nI_ltI, nI_eq, pk_sub, ib_nI, nI_clamp, va_up_self, va_up_ne, va_up_up, va_up_comm, pk_us, pk_un, upd_up, updL_up, pk_uLs, pk_uLn, b01_1, b01_0, b01_1s, b01_0s, or_b, mm200, mu200, mm201, mu201, mm202, mu202, mm203, mu203, mm204, mu204, mm205, mu205, mm206, mu206, mm207, mu207, mm208, mu208, mm209, mu209, mm210, mu210, mm211, mu211, mm212, mu212, mm213, mu213, mm214, mu214, mm215, mu215, mm216, mu216, mm217, mu217, mm218, mu218, mm219, mu219, mm220, mu220, mm221, mu221, mm222, mu222, mm223, mu223, mm224, mu224, mm225, mu225, mm226, mu226, mm227, mu227, mm228, mu228, mm229, mu229, mm230, mu230, h4, h60]
      exact this
  | cons z r ih =>
    intro pre ms X v4 e hX hst hok hh hle hev
    have elen : pre.length + (r.length + 1) = L.length := by rw [← e, List.length_append]; rfl
    have hzz : okZ P S z := hz z (by rw [← e]; simp)
    have hg : L.getD pre.length (0, 0, 0) = z := by rw [← e]; simp [List.getD_eq_getElem?_getD]
    obtain ⟨g1, g2, g3⟩ := hrow pre.length (by omega)
    rw [hg] at g1 g2 g3
    have h4 : X 201 257 = nI L.length := by rw [hX 201 (by omega)]; exact h257
    have h57 : X 201 (258 + 3 * pre.length) = nI (rkc z.1) := by rw [hX 201 (by omega)]; exact g1
    have h58 : X 201 (258 + 3 * pre.length + 1) = nI z.2.1 := by rw [hX 201 (by omega)]; exact g2
    have h59 : X 201 (258 + 3 * pre.length + 2) = nI z.2.2 := by rw [hX 201 (by omega)]; exact g3
    have e' : (pre ++ [z]) ++ r = L := by rw [List.append_assoc]; exact e
    have el' : (pre ++ [z]).length = pre.length + 1 := by rw [List.length_append]; rfl
    have hno : ¬ L.length ≤ pre.length := by omega
    rw [hgS_cons] at hh
    rw [evM_cons] at hev
    rw [w284_4]
    by_cases q13 : z.1 = 13
    · rw [if_pos q13] at hh hev
      have er : rkc z.1 = 20 := by rw [q13]; rfl
      rw [er] at h57
      match ms, hst, hok, hh, hle, hev with
      | [], _, _, hh, _, _ => rw [if_neg (by decide)] at hh; cases hh
      | a :: q, hst, hok, hh, hle, hev =>
        rw [if_pos (by show 1 ≤ q.length + 1; omega)] at hh
        have hle : q.length + 1 ≤ pre.length := hle
        have ha : a < 2 ^ P := hok a (List.mem_cons_self)
        have h60 : X 226 q.length = b01 (a.testBit p = true) := hst.1
        have hnb := ntM_bit hP8 ha hp
        have st2 : stkT p (va_up X 226 (upd (X 226) q.length (b01 ((ntM P a).testBit p = true))) 226) (ntM P a :: q) := by rw [va_up_self]; exact stkT_up hst.2
        have := ih (pre ++ [z]) (ntM P a :: q) _ (some (.int (nI (258 + 3 * pre.length)))) e' (fun k hk => by rw [va_up_ne _ _ hk]; exact hX k hk) st2 (fun m hm => by
          rcases List.mem_cons.mp hm with rfl | hm
          · exact ntM_lt
          · exact hok m (List.mem_cons_of_mem _ hm)) hh (by rw [el']; show q.length + 1 ≤ _; omega) hev
        rw [el', hnb] at this
        cases tb : a.testBit p
        · rw [tb] at this h60
          have e0 : b01 (false = true) = nI 0 := by decide
          have e1 : b01 ((!false) = true) = nI 1 := by decide
          rw [e0] at h60
          rw [e1] at this
          simp (disch := omega) [w284_5, x284_6, w284_9, w284_12, w284_13, w284_16, w284_19, w284_20, w284_21, w284_22, w284_23, w284_25, x284_26, w284_29, w284_31, w284_32, w284_34, w284_37, x284_38, w284_41, w284_42, w284_43, w284_44, x284_45, w284_48, w284_49, w284_50, w284_51, w284_52, w284_55, w284_56, w284_59, w284_60, w284_61, w284_206, w284_209, rt284, rt284, aw_st, ai_cls, ai_len, ai_p, ai_sw, ai_m, ai_c, ai_at, ai_isI, ai_isJ, ai_isA, ai_ld, ai_1i, ai_2i, ai_2l, ai_cn, ai_j, ai_set, ai_set2, ai_nl, ai_rs, ai_sm, Value.category, hk0, hk1, lits, litb, litm, litm2, List.getElem?_cons_zero, List.getElem?_cons_succ, or_n0, bit_r, fi0, fi1, fi2, fi3, nI_toInt, nI_add, pk_mul, nI_leI, nI_ltI, nI_eq, pk_sub, ib_nI, nI_clamp, va_up_self, va_up_ne, va_up_up, va_up_comm, pk_us, pk_un, upd_up, updL_up, pk_uLs, pk_uLn, b01_1, b01_0, b01_1s, b01_0s, or_b, mm200, mu200, mm201, mu201, mm202, mu202, mm203, mu203, mm204, mu204, mm205, mu205, mm206, mu206, mm207, mu207, mm208, mu208, mm209, mu209, mm210, mu210, mm211, mu211, mm212, mu212, mm213, mu213, mm214, mu214, mm215, mu215, mm216, mu216, mm217, mu217, mm218, mu218, mm219, mu219, mm220, mu220, mm221, mu221, mm222, mu222, mm223, mu223, mm224, mu224, mm225, mu225, mm226, mu226, mm227, mu227, mm228, mu228, mm229, mu229, mm230, mu230, hG, nar2, nar0, h4, hno, h57, h60]
          exact this
        · rw [tb] at this h60
          have e0 : b01 (true = true) = nI 1 := by decide
          have e1 : b01 ((!true) = true) = nI 0 := by decide
          rw [e0] at h60
          rw [e1] at this
          simp (disch := omega) [w284_5, x284_6, w284_9, w284_12, w284_13, w284_16, w284_19, w284_20, w284_21, w284_22, w284_23, w284_25, x284_26, w284_29, w284_31, w284_32, w284_34, w284_37, x284_38, w284_41, w284_42, w284_43, w284_44, x284_45, w284_48, w284_49, w284_50, w284_51, w284_52, w284_55, w284_56, w284_59, w284_60, w284_61, w284_206, w284_209, rt284, rt284, aw_st, ai_cls, ai_len, ai_p, ai_sw, ai_m, ai_c, ai_at, ai_isI, ai_isJ, ai_isA, ai_ld, ai_1i, ai_2i, ai_2l, ai_cn, ai_j, ai_set, ai_set2, ai_nl, ai_rs, ai_sm, Value.category, hk0, hk1, lits, litb, litm, litm2, List.getElem?_cons_zero, List.getElem?_cons_succ, or_n0, bit_r, fi0, fi1, fi2, fi3, nI_toInt, nI_add, pk_mul, nI_leI, nI_ltI, nI_eq, pk_sub, ib_nI, nI_clamp, va_up_self, va_up_ne, va_up_up, va_up_comm, pk_us, pk_un, upd_up, updL_up, pk_uLs, pk_uLn, b01_1, b01_0, b01_1s, b01_0s, or_b, mm200, mu200, mm201, mu201, mm202, mu202, mm203, mu203, mm204, mu204, mm205, mu205, mm206, mu206, mm207, mu207, mm208, mu208, mm209, mu209, mm210, mu210, mm211, mu211, mm212, mu212, mm213, mu213, mm214, mu214, mm215, mu215, mm216, mu216, mm217, mu217, mm218, mu218, mm219, mu219, mm220, mu220, mm221, mu221, mm222, mu222, mm223, mu223, mm224, mu224, mm225, mu225, mm226, mu226, mm227, mu227, mm228, mu228, mm229, mu229, mm230, mu230, hG, nar2, nar0, h4, hno, h57, h60]
          exact this
    · rw [if_neg q13] at hh hev
      by_cases q2 : z.1 = 12 ∨ z.1 = 11
      · rw [if_pos q2] at hh
        match ms, hst, hok, hh, hle, hev with
        | [], _, _, hh, _, _ => rw [if_neg (by decide)] at hh; cases hh
        | [a], _, _, hh, _, _ => rw [if_neg (show ¬ 2 ≤ [a].length from (by show ¬ 2 ≤ 1; omega))] at hh; cases hh
        | b :: a :: q, hst, hok, hh, hle, hev =>
          rw [if_pos (by show 2 ≤ q.length + 1 + 1; omega)] at hh
          have hle : q.length + 1 + 1 ≤ pre.length := hle
          have hh : hgS r (q.length + 1) = some 1 := hh
          have hb : b < 2 ^ P := hok b (List.mem_cons_self)
          have ha : a < 2 ^ P := hok a (List.mem_cons_of_mem _ (List.mem_cons_self))
          have hq : ∀ m ∈ q, m < 2 ^ P := fun m hm => hok m (List.mem_cons_of_mem _ (List.mem_cons_of_mem _ hm))
          have h60 : X 226 (q.length + 1) = b01 (b.testBit p = true) := hst.1
          have h60b : X 226 q.length = b01 (a.testBit p = true) := hst.2.1
          have hd := dec1 (q.length + 1)
          have e0 : b01 (false = true) = nI 0 := by decide
          have e1 : b01 (true = true) = nI 1 := by decide
          have nx : ∀ (m : Nat), m < 2 ^ P → evM P l k r (m :: q) = evM P l k L [] → ∀ v4', aw ET G (d + 2) 284 4 [some (.ref 199), some (.int (nI p)), some (.int (nI (q.length + 1))), some (.int (nI (pre.length + 1))), v4'] [] 231 sl (mem (va_up X 226 (upd (X 226) q.length (b01 (m.testBit p = true)))) Y) Q := by
            intro m hm hv v4'
            have st2 : stkT p (va_up X 226 (upd (X 226) q.length (b01 (m.testBit p = true))) 226) (m :: q) := by rw [va_up_self]; exact stkT_up hst.2.2
            have := ih (pre ++ [z]) (m :: q) _ v4' e' (fun k hk => by rw [va_up_ne _ _ hk]; exact hX k hk) st2 (fun m' hm' => by
              rcases List.mem_cons.mp hm' with rfl | hm'
              · exact hm
              · exact hq m' hm') hh (by rw [el']; show q.length + 1 ≤ _; omega) hv
            rw [el'] at this
            exact this
          by_cases q12 : z.1 = 12
          · have er : rkc z.1 = 21 := by rw [q12]; rfl
            rw [er] at h57
            rw [if_pos q12] at hev
            have := nx (a &&& b) (Nat.and_lt_two_pow a hb) hev (some (.int (nI (258 + 3 * pre.length))))
            rw [Nat.testBit_and] at this
            simp (disch := omega) [w284_5, x284_6, w284_9, w284_12, w284_13, w284_16, w284_19, w284_20, w284_21, w284_22, w284_23, w284_25, x284_26, w284_29, w284_31, w284_32, w284_34, w284_64, x284_65, w284_68, w284_70, w284_71, w284_73, w284_76, x284_77, w284_80, w284_82, w284_83, w284_85, rt284, rt284, aw_st, ai_cls, ai_len, ai_p, ai_sw, ai_m, ai_c, ai_at, ai_isI, ai_isJ, ai_isA, ai_ld, ai_1i, ai_2i, ai_2l, ai_cn, ai_j, ai_set, ai_set2, ai_nl, ai_rs, ai_sm, Value.category, hk0, hk1, lits, litb, litm, litm2, List.getElem?_cons_zero, List.getElem?_cons_succ, or_n0, bit_r, fi0, fi1, fi2, fi3, nI_toInt, nI_add, pk_mul, nI_leI, nI_ltI, nI_eq, pk_sub, ib_nI, nI_clamp, va_up_self, va_up_ne, va_up_up, va_up_comm, pk_us, pk_un, upd_up, updL_up, pk_uLs, pk_uLn, b01_1, b01_0, b01_1s, b01_0s, or_b, mm200, mu200, mm201, mu201, mm202, mu202, mm203, mu203, mm204, mu204, mm205, mu205, mm206, mu206, mm207, mu207, mm208, mu208, mm209, mu209, mm210, mu210, mm211, mu211, mm212, mu212, mm213, mu213, mm214, mu214, mm215, mu215, mm216, mu216, mm217, mu217, mm218, mu218, mm219, mu219, mm220, mu220, mm221, mu221, mm222, mu222, mm223, mu223, mm224, mu224, mm225, mu225, mm226, mu226, mm227, mu227, mm228, mu228, mm229, mu229, mm230, mu230, h4, hno, h57]
            cases ta : a.testBit p <;> cases tb : b.testBit p <;> rw [ta, tb] at this <;> rw [ta] at h60b <;> rw [tb] at h60 <;> simp only [Bool.and_true, Bool.and_false, e0, e1] at this h60 h60b <;> simp (disch := omega) [w284_88, w284_91, x284_92, w284_95, w284_96, w284_97, w284_98, x284_99, w284_102, w284_104, w284_105, w284_107, w284_110, x284_111, w284_114, w284_115, w284_116, w284_117, w284_118, w284_121, x284_122, w284_125, w284_126, w284_127, w284_130, w284_131, w284_134, w284_135, w284_163, w284_164, w284_206, w284_209, rt284, rt284, aw_st, ai_cls, ai_len, ai_p, ai_sw, ai_m, ai_c, ai_at, ai_isI, ai_isJ, ai_isA, ai_ld, ai_1i, ai_2i, ai_2l, ai_cn, ai_j, ai_set, ai_set2, ai_nl, ai_rs, ai_sm, Value.category, hk0, hk1, lits, litb, litm, litm2, List.getElem?_cons_zero, List.getElem?_cons_succ, or_n0, bit_r, fi0, fi1, fi2, fi3, nI_toInt, nI_add, pk_mul, nI_leI, nI_ltI, nI_eq, pk_sub, ib_nI, nI_clamp, va_up_self, va_up_ne, va_up_up, va_up_comm, pk_us, pk_un, upd_up, updL_up, pk_uLs, pk_uLn, b01_1, b01_0, b01_1s, b01_0s, or_b, mm200, mu200, mm201, mu201, mm202, mu202, mm203, mu203, mm204, mu204, mm205, mu205, mm206, mu206, mm207, mu207, mm208, mu208, mm209, mu209, mm210, mu210, mm211, mu211, mm212, mu212, mm213, mu213, mm214, mu214, mm215, mu215, mm216, mu216, mm217, mu217, mm218, mu218, mm219, mu219, mm220, mu220, mm221, mu221, mm222, mu222, mm223, mu223, mm224, mu224, mm225, mu225, mm226, mu226, mm227, mu227, mm228, mu228, mm229, mu229, mm230, mu230, hG, nar2, nar0, h4, hno, h57, h60, h60b, hd] <;> exact this
          · have q11 := q2.resolve_left q12
            have er : rkc z.1 = 22 := by rw [q11]; rfl
            rw [er] at h57
            rw [if_neg q12, if_pos q11] at hev
            have := nx (a ||| b) (Nat.or_lt_two_pow ha hb) hev (some (.int (nI (258 + 3 * pre.length))))
            rw [Nat.testBit_or] at this
            simp (disch := omega) [w284_5, x284_6, w284_9, w284_12, w284_13, w284_16, w284_19, w284_20, w284_21, w284_22, w284_23, w284_25, x284_26, w284_29, w284_31, w284_32, w284_34, w284_64, x284_65, w284_68, w284_70, w284_71, w284_73, w284_76, x284_77, w284_80, w284_82, w284_83, w284_85, rt284, rt284, aw_st, ai_cls, ai_len, ai_p, ai_sw, ai_m, ai_c, ai_at, ai_isI, ai_isJ, ai_isA, ai_ld, ai_1i, ai_2i, ai_2l, ai_cn, ai_j, ai_set, ai_set2, ai_nl, ai_rs, ai_sm, Value.category, hk0, hk1, lits, litb, litm, litm2, List.getElem?_cons_zero, List.getElem?_cons_succ, or_n0, bit_r, fi0, fi1, fi2, fi3, nI_toInt, nI_add, pk_mul, nI_leI, nI_ltI, nI_eq, pk_sub, ib_nI, nI_clamp, va_up_self, va_up_ne, va_up_up, va_up_comm, pk_us, pk_un, upd_up, updL_up, pk_uLs, pk_uLn, b01_1, b01_0, b01_1s, b01_0s, or_b, mm200, mu200, mm201, mu201, mm202, mu202, mm203, mu203, mm204, mu204, mm205, mu205, mm206, mu206, mm207, mu207, mm208, mu208, mm209, mu209, mm210, mu210, mm211, mu211, mm212, mu212, mm213, mu213, mm214, mu214, mm215, mu215, mm216, mu216, mm217, mu217, mm218, mu218, mm219, mu219, mm220, mu220, mm221, mu221, mm222, mu222, mm223, mu223, mm224, mu224, mm225, mu225, mm226, mu226, mm227, mu227, mm228, mu228, mm229, mu229, mm230, mu230, h4, hno, h57]
            cases ta : a.testBit p <;> cases tb : b.testBit p <;> rw [ta, tb] at this <;> rw [ta] at h60b <;> rw [tb] at h60 <;> simp only [Bool.or_true, Bool.or_false, e0, e1] at this h60 h60b <;> simp (disch := omega) [w284_88, w284_91, x284_92, w284_95, w284_96, w284_97, w284_98, x284_99, w284_102, w284_104, w284_105, w284_107, w284_138, x284_139, w284_142, w284_143, w284_144, w284_145, w284_146, w284_149, x284_150, w284_153, w284_154, w284_155, w284_158, w284_159, w284_162, w284_163, w284_164, w284_206, w284_209, rt284, rt284, aw_st, ai_cls, ai_len, ai_p, ai_sw, ai_m, ai_c, ai_at, ai_isI, ai_isJ, ai_isA, ai_ld, ai_1i, ai_2i, ai_2l, ai_cn, ai_j, ai_set, ai_set2, ai_nl, ai_rs, ai_sm, Value.category, hk0, hk1, lits, litb, litm, litm2, List.getElem?_cons_zero, List.getElem?_cons_succ, or_n0, bit_r, fi0, fi1, fi2, fi3, nI_toInt, nI_add, pk_mul, nI_leI, nI_ltI, nI_eq, pk_sub, ib_nI, nI_clamp, va_up_self, va_up_ne, va_up_up, va_up_comm, pk_us, pk_un, upd_up, updL_up, pk_uLs, pk_uLn, b01_1, b01_0, b01_1s, b01_0s, or_b, mm200, mu200, mm201, mu201, mm202, mu202, mm203, mu203, mm204, mu204, mm205, mu205, mm206, mu206, mm207, mu207, mm208, mu208, mm209, mu209, mm210, mu210, mm211, mu211, mm212, mu212, mm213, mu213, mm214, mu214, mm215, mu215, mm216, mu216, mm217, mu217, mm218, mu218, mm219, mu219, mm220, mu220, mm221, mu221, mm222, mu222, mm223, mu223, mm224, mu224, mm225, mu225, mm226, mu226, mm227, mu227, mm228, mu228, mm229, mu229, mm230, mu230, hG, nar2, nar0, h4, hno, h57, h60, h60b, hd] <;> exact this
      · rw [if_neg q2] at hh
        have m12 : ¬ z.1 = 12 := fun q => q2 (Or.inl q)
        have m11 : ¬ z.1 = 11 := fun q => q2 (Or.inr q)
        rw [if_neg m12, if_neg m11] at hev
        have hlf := okZ_lf hzz q13 q2
        have hr10 := rkc_lf hlf
        have hx := fun (Q : List Value → Nat → Nat → ai_M → Prop) => isLeaf_eq (G := G) (d := d) (sl := sl) (Q := Q) (X := X) (Y := Y) (P := P) (S := S) (z := z) (p := p) (l := l) (k := k) (by rw [hX 201 (by omega)]; exact hl) (by rw [hX 201 (by omega)]; exact hk) hlf hp
        have hbit : (mkM (lfT l k z) P).testBit p = lfT l k z p := mkM_bit P p hp
        have st2 : stkT p (va_up X 226 (upd (X 226) ms.length (b01 ((mkM (lfT l k z) P).testBit p = true))) 226) (mkM (lfT l k z) P :: ms) := by rw [va_up_self]; exact stkT_up hst
        have := ih (pre ++ [z]) (mkM (lfT l k z) P :: ms) _ (some (.int (nI (258 + 3 * pre.length)))) e' (fun k hk => by rw [va_up_ne _ _ hk]; exact hX k hk) st2 (fun m hm => by
          rcases List.mem_cons.mp hm with rfl | hm
          · exact mkM_lt P
          · exact hok m hm) hh (by rw [el']; show ms.length + 1 ≤ _; omega) hev
        rw [el', hbit] at this
        simp (disch := omega) [w284_5, x284_6, w284_9, w284_12, w284_13, w284_16, w284_19, w284_20, w284_21, w284_22, w284_23, w284_25, x284_26, w284_29, w284_31, w284_32, w284_34, w284_64, x284_65, w284_68, w284_70, w284_71, w284_73, w284_76, x284_77, w284_80, w284_82, w284_83, w284_85, rt284, rt284, aw_st, ai_cls, ai_len, ai_p, ai_sw, ai_m, ai_c, ai_at, ai_isI, ai_isJ, ai_isA, ai_ld, ai_1i, ai_2i, ai_2l, ai_cn, ai_j, ai_set, ai_set2, ai_nl, ai_rs, ai_sm, Value.category, hk0, hk1, lits, litb, litm, litm2, List.getElem?_cons_zero, List.getElem?_cons_succ, or_n0, bit_r, fi0, fi1, fi2, fi3, nI_toInt, nI_add, pk_mul, nI_leI, nI_ltI, nI_eq, pk_sub, ib_nI, nI_clamp, va_up_self, va_up_ne, va_up_up, va_up_comm, pk_us, pk_un, upd_up, updL_up, pk_uLs, pk_uLn, b01_1, b01_0, b01_1s, b01_0s, or_b, mm200, mu200, mm201, mu201, mm202, mu202, mm203, mu203, mm204, mu204, mm205, mu205, mm206, mu206, mm207, mu207, mm208, mu208, mm209, mu209, mm210, mu210, mm211, mu211, mm212, mu212, mm213, mu213, mm214, mu214, mm215, mu215, mm216, mu216, mm217, mu217, mm218, mu218, mm219, mu219, mm220, mu220, mm221, mu221, mm222, mu222, mm223, mu223, mm224, mu224, mm225, mu225, mm226, mu226, mm227, mu227, mm228, mu228, mm229, mu229, mm230, mu230, h4, hno, h57, show ¬ rkc z.1 = 20 by omega, show ¬ rkc z.1 = 21 by omega, show ¬ rkc z.1 = 22 by omega]
        simp (disch := omega) [w284_167, x284_168, w284_171, w284_172, w284_173, w284_174, x284_175, w284_178, w284_180, w284_181, x284_182, w284_185, w284_187, w284_188, w284_189, w284_190, x284_191, w284_194, w284_196, w284_197, w284_198, x284_199, w284_202, w284_203, w284_206, w284_209, rt284, rt284, aw_st, ai_cls, ai_len, ai_p, ai_sw, ai_m, ai_c, ai_at, ai_isI, ai_isJ, ai_isA, ai_ld, ai_1i, ai_2i, ai_2l, ai_cn, ai_j, ai_set, ai_set2, ai_nl, ai_rs, ai_sm, Value.category, hk0, hk1, lits, litb, litm, litm2, List.getElem?_cons_zero, List.getElem?_cons_succ, or_n0, bit_r, fi0, fi1, fi2, fi3, nI_toInt, nI_add, pk_mul, nI_leI, nI_ltI, nI_eq, pk_sub, ib_nI, nI_clamp, va_up_self, va_up_ne, va_up_up, va_up_comm, pk_us, pk_un, upd_up, updL_up, pk_uLs, pk_uLn, b01_1, b01_0, b01_1s, b01_0s, or_b, mm200, mu200, mm201, mu201, mm202, mu202, mm203, mu203, mm204, mu204, mm205, mu205, mm206, mu206, mm207, mu207, mm208, mu208, mm209, mu209, mm210, mu210, mm211, mu211, mm212, mu212, mm213, mu213, mm214, mu214, mm215, mu215, mm216, mu216, mm217, mu217, mm218, mu218, mm219, mu219, mm220, mu220, mm221, mu221, mm222, mu222, mm223, mu223, mm224, mu224, mm225, mu225, mm226, mu226, mm227, mu227, mm228, mu228, mm229, mu229, mm230, mu230, hG, nar_b, h57, h58, h59, hx]
        exact this
end SDF
