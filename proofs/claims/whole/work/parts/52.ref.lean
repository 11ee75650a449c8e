/-! THE REFERENCE, III: hearing, telling, days -/
section RFC
variable {G : ai_G} {d n sl : Nat} {X : mX} {Y : mY} {Q : List Value → Nat → Nat → ai_M → Prop} {l k : Nat → Nat → Int32} {P S : Nat}
set_option maxHeartbeats 4000000 in
theorem dueOf_eq {b m g : Nat} (hb : b < 8) (hm : m ≤ 1000) (hg : g ≤ 1000) (h1 : X 201 (28 + b) = b01 (bit (k 9 0) (nI b) = 1)) (h2 : X 201 2 = nI g) (h3 : k 11 0 = nI g) : aw ET G d 222 0 [some (.ref 199), some (.int (nI b)), some (.int (nI m))] [] 231 sl (mem X Y) Q = Q [.int (dueI k (nI b) (nI m))] 231 sl (mem X Y) := by
  by_cases e : bit (k 9 0) (nI b) = nI 1
  · simp (disch := omega) [w222_0, x222_1, w222_4, w222_6, w222_7, w222_8, w222_9, w222_10, w222_13, w222_14, x222_15, w222_18, w222_19, w222_20, w222_23, w222_24, w222_27, w222_28, x222_29, w222_32, w222_33, w222_34, w222_35, rt222, aw_st, ai_cls, ai_len, ai_p, ai_sw, ai_m, ai_c, ai_at, ai_isI, ai_isJ, ai_isA, ai_ld, ai_1i, ai_2i, ai_2l, ai_cn, ai_j, ai_set, ai_set2, ai_nl, ai_rs, ai_sm, Value.category, hk0, hk1, lits, litb, litm, litm2, or_n0, bit_r, fi0, fi1, fi2, fi3, nI_add, pk_mul, nI_leI, nI_ltI, nI_eq, pk_sub, ib_nI, nI_clamp, va_up_self, va_up_ne, va_up_up, va_up_comm, pk_us, pk_un, upd_up, updL_up, pk_uLs, pk_uLn, b01_1, b01_0, b01_1s, b01_0s, or_b, mm200, mu200, mm201, mu201, mm202, mu202, mm203, mu203, mm204, mu204, mm205, mu205, mm206, mu206, mm207, mu207, mm208, mu208, mm209, mu209, mm210, mu210, mm211, mu211, mm212, mu212, mm213, mu213, mm214, mu214, mm215, mu215, mm216, mu216, mm217, mu217, mm218, mu218, mm219, mu219, mm220, mu220, mm221, mu221, mm222, mu222, mm223, mu223, mm224, mu224, mm225, mu225, mm226, mu226, mm227, mu227, mm228, mu228, mm229, mu229, mm230, mu230, h1, h2, h3, e, dueI]
  · by_cases e2 : g < m
    · have e3 : ¬ m ≤ g := by omega
      have e4 : (0 : Int32) < nI m - nI g := by rw [pk_sub (by omega)]; exact nI_lt (a := 0) (by omega) (by omega)
      have e5 : nI 0 < nI (m - g) := nI_lt (by omega) (by omega)
      simp (disch := omega) [w222_0, x222_1, w222_4, w222_6, w222_7, w222_8, w222_9, w222_10, w222_13, w222_14, x222_15, w222_18, w222_19, w222_20, w222_23, w222_24, w222_27, w222_28, x222_29, w222_32, w222_33, w222_34, w222_35, rt222, aw_st, ai_cls, ai_len, ai_p, ai_sw, ai_m, ai_c, ai_at, ai_isI, ai_isJ, ai_isA, ai_ld, ai_1i, ai_2i, ai_2l, ai_cn, ai_j, ai_set, ai_set2, ai_nl, ai_rs, ai_sm, Value.category, hk0, hk1, lits, litb, litm, litm2, or_n0, bit_r, fi0, fi1, fi2, fi3, nI_add, pk_mul, nI_leI, nI_ltI, nI_eq, pk_sub, ib_nI, nI_clamp, va_up_self, va_up_ne, va_up_up, va_up_comm, pk_us, pk_un, upd_up, updL_up, pk_uLs, pk_uLn, b01_1, b01_0, b01_1s, b01_0s, or_b, mm200, mu200, mm201, mu201, mm202, mu202, mm203, mu203, mm204, mu204, mm205, mu205, mm206, mu206, mm207, mu207, mm208, mu208, mm209, mu209, mm210, mu210, mm211, mu211, mm212, mu212, mm213, mu213, mm214, mu214, mm215, mu215, mm216, mu216, mm217, mu217, mm218, mu218, mm219, mu219, mm220, mu220, mm221, mu221, mm222, mu222, mm223, mu223, mm224, mu224, mm225, mu225, mm226, mu226, mm227, mu227, mm228, mu228, mm229, mu229, mm230, mu230, h1, h2, h3, e, e3, e5, dueI, show g ≤ m by omega, pk_sub]
    · have e4 : ¬ (nI 0 < nI m - nI g) := by
        intro q
        by_cases e6 : m = g
        · subst e6; rw [pk_sub (Nat.le_refl _)] at q; simp at q
        · have := pk_sneg (a := m) (b := g) (by omega) (by omega)
          exact absurd (Int32.lt_trans q this) (by decide)
      by_cases e6 : m < g
      · simp (disch := omega) [w222_0, x222_1, w222_4, w222_6, w222_7, w222_8, w222_9, w222_10, w222_13, w222_14, x222_15, w222_18, w222_19, w222_20, w222_23, w222_24, w222_27, w222_28, x222_29, w222_32, w222_33, w222_34, w222_35, rt222, aw_st, ai_cls, ai_len, ai_p, ai_sw, ai_m, ai_c, ai_at, ai_isI, ai_isJ, ai_isA, ai_ld, ai_1i, ai_2i, ai_2l, ai_cn, ai_j, ai_set, ai_set2, ai_nl, ai_rs, ai_sm, Value.category, hk0, hk1, lits, litb, litm, litm2, or_n0, bit_r, fi0, fi1, fi2, fi3, nI_add, pk_mul, nI_leI, nI_ltI, nI_eq, pk_sub, ib_nI, nI_clamp, va_up_self, va_up_ne, va_up_up, va_up_comm, pk_us, pk_un, upd_up, updL_up, pk_uLs, pk_uLn, b01_1, b01_0, b01_1s, b01_0s, or_b, mm200, mu200, mm201, mu201, mm202, mu202, mm203, mu203, mm204, mu204, mm205, mu205, mm206, mu206, mm207, mu207, mm208, mu208, mm209, mu209, mm210, mu210, mm211, mu211, mm212, mu212, mm213, mu213, mm214, mu214, mm215, mu215, mm216, mu216, mm217, mu217, mm218, mu218, mm219, mu219, mm220, mu220, mm221, mu221, mm222, mu222, mm223, mu223, mm224, mu224, mm225, mu225, mm226, mu226, mm227, mu227, mm228, mu228, mm229, mu229, mm230, mu230, h1, h2, h3, e, e4, e6, dueI, show ¬ g ≤ m by omega]
      · have : m = g := by omega
        subst this
        have e7 : ¬ (nI 0 < nI 0) := by decide
        simp (disch := omega) [w222_0, x222_1, w222_4, w222_6, w222_7, w222_8, w222_9, w222_10, w222_13, w222_14, x222_15, w222_18, w222_19, w222_20, w222_23, w222_24, w222_27, w222_28, x222_29, w222_32, w222_33, w222_34, w222_35, rt222, aw_st, ai_cls, ai_len, ai_p, ai_sw, ai_m, ai_c, ai_at, ai_isI, ai_isJ, ai_isA, ai_ld, ai_1i, ai_2i, ai_2l, ai_cn, ai_j, ai_set, ai_set2, ai_nl, ai_rs, ai_sm, Value.category, hk0, hk1, lits, litb, litm, litm2, or_n0, bit_r, fi0, fi1, fi2, fi3, nI_add, pk_mul, nI_leI, nI_ltI, nI_eq, pk_sub, ib_nI, nI_clamp, va_up_self, va_up_ne, va_up_up, va_up_comm, pk_us, pk_un, upd_up, updL_up, pk_uLs, pk_uLn, b01_1, b01_0, b01_1s, b01_0s, or_b, mm200, mu200, mm201, mu201, mm202, mu202, mm203, mu203, mm204, mu204, mm205, mu205, mm206, mu206, mm207, mu207, mm208, mu208, mm209, mu209, mm210, mu210, mm211, mu211, mm212, mu212, mm213, mu213, mm214, mu214, mm215, mu215, mm216, mu216, mm217, mu217, mm218, mu218, mm219, mu219, mm220, mu220, mm221, mu221, mm222, mu222, mm223, mu223, mm224, mu224, mm225, mu225, mm226, mu226, mm227, mu227, mm228, mu228, mm229, mu229, mm230, mu230, h1, h2, h3, e, e7, dueI]
theorem rsum_upd (f : Nat → Int32) {a : Nat} (ha : a < 8) (x : Int32) : rsum (upd f a (f a + x)) 0 8 0 = rsum f 0 8 0 + x := by
  rcases (show a = 0 ∨ a = 1 ∨ a = 2 ∨ a = 3 ∨ a = 4 ∨ a = 5 ∨ a = 6 ∨ a = 7 by omega) with rfl | rfl | rfl | rfl | rfl | rfl | rfl | rfl <;> simp [rsum, upd] <;> ac_rfl
set_option maxHeartbeats 8000000 in
set_option maxRecDepth 20000 in
theorem hears_wp {a b m g : Nat} (h : LSx (X 201) l) (hk : KS (X 201) k P S) (hg : g ≤ 9) (hgk : k 11 0 = nI g) (ha : a < 8) (hb : b < 8) (hm : m ≤ 1000) (hQ : ∀ s', LSx s' (hearL l k a b (nI m)) → (∀ i, i < 132 ∨ 257 ≤ i → s' i = X 201 i) → Q [] 231 sl (mem (va_up X 201 s') Y)) : aw ET G (d + 2) 221 0 [some (.ref 199), some (.int (nI a)), some (.int (nI b)), some (.int (nI m))] [] 231 sl (mem X Y) Q := by
  have hh := h
  obtain ⟨⟨a1, a2, a3, a4, a5, a6, a7, a8, a9, a10, a11, a12⟩, a13⟩ := h
  obtain ⟨hP, hS, kP, kS, k1, k2, k3, k4, k5, k6, k7, k8, k9, k10, k11⟩ := hk
  by_cases hf : bit (k 10 0) (nI a) = nI 1
  · simp (disch := omega) [w221_0, x221_1, w221_4, w221_7, w221_8, w221_9, w221_10, w221_11, w221_12, w221_13, w221_14, x221_15, w221_18, w221_20, w221_21, w221_22, w221_23, w221_24, w221_27, x221_28, w221_31, w221_34, w221_35, w221_36, w221_37, w221_38, w221_39, w221_42, x221_43, w221_46, w221_49, w221_50, w221_51, w221_52, w221_53, w221_54, w221_55, w221_56, x221_57, w221_60, w221_63, w221_64, w221_65, w221_66, w221_67, w221_68, x221_69, w221_72, w221_75, w221_76, w221_77, w221_78, w221_79, w221_80, x221_81, w221_84, w221_87, w221_88, w221_89, w221_90, w221_91, w221_92, w221_93, w221_94, x221_95, w221_98, w221_101, w221_102, w221_103, w221_104, w221_105, w221_106, w221_107, w221_108, w221_109, w221_110, w221_111, w221_112, w221_113, x221_114, x221_117, rt221, aw_st, ai_cls, ai_len, ai_p, ai_sw, ai_m, ai_c, ai_at, ai_isI, ai_isJ, ai_isA, ai_ld, ai_1i, ai_2i, ai_2l, ai_cn, ai_j, ai_set, ai_set2, ai_nl, ai_rs, ai_sm, Value.category, hk0, hk1, lits, litb, litm, litm2, or_n0, bit_r, fi0, fi1, fi2, fi3, nI_add, pk_mul, nI_leI, nI_ltI, nI_eq, pk_sub, ib_nI, nI_clamp, va_up_self, va_up_ne, va_up_up, va_up_comm, pk_us, pk_un, upd_up, updL_up, pk_uLs, pk_uLn, b01_1, b01_0, b01_1s, b01_0s, or_b, mm200, mu200, mm201, mu201, mm202, mu202, mm203, mu203, mm204, mu204, mm205, mu205, mm206, mu206, mm207, mu207, mm208, mu208, mm209, mu209, mm210, mu210, mm211, mu211, mm212, mu212, mm213, mu213, mm214, mu214, mm215, mu215, mm216, mu216, mm217, mu217, mm218, mu218, mm219, mu219, mm220, mu220, mm221, mu221, mm222, mu222, mm223, mu223, mm224, mu224, mm225, mu225, mm226, mu226, mm227, mu227, mm228, mu228, mm229, mu229, mm230, mu230, a1, a2, a3, a4, a5, a6, a8, a9, a13, k8, hf]
    rw [dueOf_eq (k := k) hb hm (show g ≤ 1000 by omega) ?h1 ?h2 hgk]
    case h1 => simp (disch := omega) [va_up, pk_un, k7]
    case h2 => simp (disch := omega) [va_up, pk_un, k3, hgk]
    simp (disch := omega) [w221_0, x221_1, w221_4, w221_7, w221_8, w221_9, w221_10, w221_11, w221_12, w221_13, w221_14, x221_15, w221_18, w221_20, w221_21, w221_22, w221_23, w221_24, w221_27, x221_28, w221_31, w221_34, w221_35, w221_36, w221_37, w221_38, w221_39, w221_42, x221_43, w221_46, w221_49, w221_50, w221_51, w221_52, w221_53, w221_54, w221_55, w221_56, x221_57, w221_60, w221_63, w221_64, w221_65, w221_66, w221_67, w221_68, x221_69, w221_72, w221_75, w221_76, w221_77, w221_78, w221_79, w221_80, x221_81, w221_84, w221_87, w221_88, w221_89, w221_90, w221_91, w221_92, w221_93, w221_94, x221_95, w221_98, w221_101, w221_102, w221_103, w221_104, w221_105, w221_106, w221_107, w221_108, w221_109, w221_110, w221_111, w221_112, w221_113, x221_114, x221_117, w221_120, rt221, aw_st, ai_cls, ai_len, ai_p, ai_sw, ai_m, ai_c, ai_at, ai_isI, ai_isJ, ai_isA, ai_ld, ai_1i, ai_2i, ai_2l, ai_cn, ai_j, ai_set, ai_set2, ai_nl, ai_rs, ai_sm, Value.category, hk0, hk1, lits, litb, litm, litm2, or_n0, bit_r, fi0, fi1, fi2, fi3, nI_add, pk_mul, nI_leI, nI_ltI, nI_eq, pk_sub, ib_nI, nI_clamp, va_up_self, va_up_ne, va_up_up, va_up_comm, pk_us, pk_un, upd_up, updL_up, pk_uLs, pk_uLn, b01_1, b01_0, b01_1s, b01_0s, or_b, mm200, mu200, mm201, mu201, mm202, mu202, mm203, mu203, mm204, mu204, mm205, mu205, mm206, mu206, mm207, mu207, mm208, mu208, mm209, mu209, mm210, mu210, mm211, mu211, mm212, mu212, mm213, mu213, mm214, mu214, mm215, mu215, mm216, mu216, mm217, mu217, mm218, mu218, mm219, mu219, mm220, mu220, mm221, mu221, mm222, mu222, mm223, mu223, mm224, mu224, mm225, mu225, mm226, mu226, mm227, mu227, mm228, mu228, mm229, mu229, mm230, mu230, comes_eq]
    apply hQ
    · refine ⟨LSb.cg (LSb_owe (LSb_u4 (LSb_u3 (LSb_u13 (LSb_no (LSb_u11 (LSb_u2 hh.1 ha _) _) (by omega) _) _) ha _) hb _) hb ha _) (fun j => ?_), ?_⟩
      · simp only [hearL, hearB, hearA, vf_upd, show (1 : Int32) = nI 1 from rfl, if_pos hf]
        by_cases j5 : j = 5
        · simp [j5]
        · by_cases j4 : j = 4
          · simp [j4]
          · by_cases j3 : j = 3
            · simp [j3]
            · by_cases j13 : j = 13
              · simp [j13]
              · by_cases j11 : j = 11
                · simp [j11]
                · simp [j5, j4, j3, j13, j11]
      · rw [oweS_no (by omega) hb ha]
        simp (disch := omega) [pk_un, pk_us]
        rw [show hearL l k a b (nI m) 3 = upd (l 3) a (l 3 a + nI m) by simp [hearL, hearB, hearA, vf_upd]; split <;> rfl, rsum_upd _ ha]
        rfl
    · intro i hi
      rw [oweS_no (by omega) hb ha]
      simp (disch := omega) [pk_un]
  · simp (disch := omega) [w221_0, x221_1, w221_4, w221_7, w221_8, w221_9, w221_10, w221_11, w221_12, w221_13, w221_14, x221_15, w221_18, w221_20, w221_21, w221_22, w221_23, w221_24, w221_27, x221_28, w221_31, w221_34, w221_35, w221_36, w221_37, w221_38, w221_39, w221_42, x221_43, w221_46, w221_49, w221_50, w221_51, w221_52, w221_53, w221_54, w221_55, w221_56, x221_57, w221_60, w221_63, w221_64, w221_65, w221_66, w221_67, w221_68, x221_69, w221_72, w221_75, w221_76, w221_77, w221_78, w221_79, w221_80, x221_81, w221_84, w221_87, w221_88, w221_89, w221_90, w221_91, w221_92, w221_93, w221_94, x221_95, w221_98, w221_101, w221_102, w221_103, w221_104, w221_105, w221_106, w221_107, w221_108, w221_109, w221_110, w221_111, w221_112, w221_113, x221_114, x221_117, rt221, aw_st, ai_cls, ai_len, ai_p, ai_sw, ai_m, ai_c, ai_at, ai_isI, ai_isJ, ai_isA, ai_ld, ai_1i, ai_2i, ai_2l, ai_cn, ai_j, ai_set, ai_set2, ai_nl, ai_rs, ai_sm, Value.category, hk0, hk1, lits, litb, litm, litm2, or_n0, bit_r, fi0, fi1, fi2, fi3, nI_add, pk_mul, nI_leI, nI_ltI, nI_eq, pk_sub, ib_nI, nI_clamp, va_up_self, va_up_ne, va_up_up, va_up_comm, pk_us, pk_un, upd_up, updL_up, pk_uLs, pk_uLn, b01_1, b01_0, b01_1s, b01_0s, or_b, mm200, mu200, mm201, mu201, mm202, mu202, mm203, mu203, mm204, mu204, mm205, mu205, mm206, mu206, mm207, mu207, mm208, mu208, mm209, mu209, mm210, mu210, mm211, mu211, mm212, mu212, mm213, mu213, mm214, mu214, mm215, mu215, mm216, mu216, mm217, mu217, mm218, mu218, mm219, mu219, mm220, mu220, mm221, mu221, mm222, mu222, mm223, mu223, mm224, mu224, mm225, mu225, mm226, mu226, mm227, mu227, mm228, mu228, mm229, mu229, mm230, mu230, a1, a2, a3, a4, a5, a6, a8, a9, a13, k8, hf]
    rw [dueOf_eq (k := k) hb hm (show g ≤ 1000 by omega) ?h1 ?h2 hgk]
    case h1 => simp (disch := omega) [va_up, pk_un, k7]
    case h2 => simp (disch := omega) [va_up, pk_un, k3, hgk]
    simp (disch := omega) [w221_0, x221_1, w221_4, w221_7, w221_8, w221_9, w221_10, w221_11, w221_12, w221_13, w221_14, x221_15, w221_18, w221_20, w221_21, w221_22, w221_23, w221_24, w221_27, x221_28, w221_31, w221_34, w221_35, w221_36, w221_37, w221_38, w221_39, w221_42, x221_43, w221_46, w221_49, w221_50, w221_51, w221_52, w221_53, w221_54, w221_55, w221_56, x221_57, w221_60, w221_63, w221_64, w221_65, w221_66, w221_67, w221_68, x221_69, w221_72, w221_75, w221_76, w221_77, w221_78, w221_79, w221_80, x221_81, w221_84, w221_87, w221_88, w221_89, w221_90, w221_91, w221_92, w221_93, w221_94, x221_95, w221_98, w221_101, w221_102, w221_103, w221_104, w221_105, w221_106, w221_107, w221_108, w221_109, w221_110, w221_111, w221_112, w221_113, x221_114, x221_117, w221_120, rt221, aw_st, ai_cls, ai_len, ai_p, ai_sw, ai_m, ai_c, ai_at, ai_isI, ai_isJ, ai_isA, ai_ld, ai_1i, ai_2i, ai_2l, ai_cn, ai_j, ai_set, ai_set2, ai_nl, ai_rs, ai_sm, Value.category, hk0, hk1, lits, litb, litm, litm2, or_n0, bit_r, fi0, fi1, fi2, fi3, nI_add, pk_mul, nI_leI, nI_ltI, nI_eq, pk_sub, ib_nI, nI_clamp, va_up_self, va_up_ne, va_up_up, va_up_comm, pk_us, pk_un, upd_up, updL_up, pk_uLs, pk_uLn, b01_1, b01_0, b01_1s, b01_0s, or_b, mm200, mu200, mm201, mu201, mm202, mu202, mm203, mu203, mm204, mu204, mm205, mu205, mm206, mu206, mm207, mu207, mm208, mu208, mm209, mu209, mm210, mu210, mm211, mu211, mm212, mu212, mm213, mu213, mm214, mu214, mm215, mu215, mm216, mu216, mm217, mu217, mm218, mu218, mm219, mu219, mm220, mu220, mm221, mu221, mm222, mu222, mm223, mu223, mm224, mu224, mm225, mu225, mm226, mu226, mm227, mu227, mm228, mu228, mm229, mu229, mm230, mu230, comes_eq]
    apply hQ
    · refine ⟨LSb.cg (LSb_owe (LSb_u4 (LSb_u3 (LSb_u13 (LSb_no (LSb_u1 (LSb_u2 hh.1 ha _) hb _) (by omega) _) _) ha _) hb _) hb ha _) (fun j => ?_), ?_⟩
      · simp only [hearL, hearB, hearA, vf_upd, show (1 : Int32) = nI 1 from rfl, if_neg hf]
        by_cases j5 : j = 5
        · simp [j5]
        · by_cases j4 : j = 4
          · simp [j4]
          · by_cases j3 : j = 3
            · simp [j3]
            · by_cases j13 : j = 13
              · simp [j13]
              · by_cases j11 : j = 1
                · simp [j11]
                · simp [j5, j4, j3, j13, j11]
      · rw [oweS_no (by omega) hb ha]
        simp (disch := omega) [pk_un, pk_us]
        rw [show hearL l k a b (nI m) 3 = upd (l 3) a (l 3 a + nI m) by simp [hearL, hearB, hearA, vf_upd]; split <;> rfl, rsum_upd _ ha]
        rfl
    · intro i hi
      rw [oweS_no (by omega) hb ha]
      simp (disch := omega) [pk_un]
set_option maxHeartbeats 4000000 in
theorem whyTell_eq {a b q : Nat} (h : LSb (X 201) l) (ha : a < 8) (hb : b < 8) (hq : q < 8) : aw ET G (d + 1) 226 0 [some (.ref 199), some (.int (nI a)), some (.int (nI b)), some (.int (nI q))] [] 231 sl (mem X Y) Q = Q [.int (tellI l a b q)] 231 sl (mem X Y) := by
  obtain ⟨a1, a2, a3, a4, a5, a6, a7, a8, a9, a10, a11, a12⟩ := h
  by_cases e1 : a = b
  · simp (disch := omega) [w226_0, w226_1, w226_2, w226_5, w226_6, w226_9, x226_10, w226_13, w226_16, w226_17, w226_18, w226_19, x226_20, w226_23, w226_26, w226_27, w226_30, x226_31, w226_34, w226_37, w226_38, w226_39, w226_40, x226_41, w226_44, w226_47, w226_48, w226_51, w226_52, rt226, aw_st, ai_cls, ai_len, ai_p, ai_sw, ai_m, ai_c, ai_at, ai_isI, ai_isJ, ai_isA, ai_ld, ai_1i, ai_2i, ai_2l, ai_cn, ai_j, ai_set, ai_set2, ai_nl, ai_rs, ai_sm, Value.category, hk0, hk1, lits, litb, litm, litm2, or_n0, bit_r, fi0, fi1, fi2, fi3, nI_add, pk_mul, nI_leI, nI_ltI, nI_eq, pk_sub, ib_nI, nI_clamp, va_up_self, va_up_ne, va_up_up, va_up_comm, pk_us, pk_un, upd_up, updL_up, pk_uLs, pk_uLn, b01_1, b01_0, b01_1s, b01_0s, or_b, mm200, mu200, mm201, mu201, mm202, mu202, mm203, mu203, mm204, mu204, mm205, mu205, mm206, mu206, mm207, mu207, mm208, mu208, mm209, mu209, mm210, mu210, mm211, mu211, mm212, mu212, mm213, mu213, mm214, mu214, mm215, mu215, mm216, mu216, mm217, mu217, mm218, mu218, mm219, mu219, mm220, mu220, mm221, mu221, mm222, mu222, mm223, mu223, mm224, mu224, mm225, mu225, mm226, mu226, mm227, mu227, mm228, mu228, mm229, mu229, mm230, mu230, a12, bitOf_eq, tellI, e1]
  · by_cases e2 : bit (l 7 q) (nI a) = nI 1
    · by_cases e3 : bit (l 7 q) (nI b) = nI 1 <;> simp (disch := omega) [w226_0, w226_1, w226_2, w226_5, w226_6, w226_9, x226_10, w226_13, w226_16, w226_17, w226_18, w226_19, x226_20, w226_23, w226_26, w226_27, w226_30, x226_31, w226_34, w226_37, w226_38, w226_39, w226_40, x226_41, w226_44, w226_47, w226_48, w226_51, w226_52, rt226, aw_st, ai_cls, ai_len, ai_p, ai_sw, ai_m, ai_c, ai_at, ai_isI, ai_isJ, ai_isA, ai_ld, ai_1i, ai_2i, ai_2l, ai_cn, ai_j, ai_set, ai_set2, ai_nl, ai_rs, ai_sm, Value.category, hk0, hk1, lits, litb, litm, litm2, or_n0, bit_r, fi0, fi1, fi2, fi3, nI_add, pk_mul, nI_leI, nI_ltI, nI_eq, pk_sub, ib_nI, nI_clamp, va_up_self, va_up_ne, va_up_up, va_up_comm, pk_us, pk_un, upd_up, updL_up, pk_uLs, pk_uLn, b01_1, b01_0, b01_1s, b01_0s, or_b, mm200, mu200, mm201, mu201, mm202, mu202, mm203, mu203, mm204, mu204, mm205, mu205, mm206, mu206, mm207, mu207, mm208, mu208, mm209, mu209, mm210, mu210, mm211, mu211, mm212, mu212, mm213, mu213, mm214, mu214, mm215, mu215, mm216, mu216, mm217, mu217, mm218, mu218, mm219, mu219, mm220, mu220, mm221, mu221, mm222, mu222, mm223, mu223, mm224, mu224, mm225, mu225, mm226, mu226, mm227, mu227, mm228, mu228, mm229, mu229, mm230, mu230, a12, bitOf_eq, tellI, e1, e2, e3]
    · simp (disch := omega) [w226_0, w226_1, w226_2, w226_5, w226_6, w226_9, x226_10, w226_13, w226_16, w226_17, w226_18, w226_19, x226_20, w226_23, w226_26, w226_27, w226_30, x226_31, w226_34, w226_37, w226_38, w226_39, w226_40, x226_41, w226_44, w226_47, w226_48, w226_51, w226_52, rt226, aw_st, ai_cls, ai_len, ai_p, ai_sw, ai_m, ai_c, ai_at, ai_isI, ai_isJ, ai_isA, ai_ld, ai_1i, ai_2i, ai_2l, ai_cn, ai_j, ai_set, ai_set2, ai_nl, ai_rs, ai_sm, Value.category, hk0, hk1, lits, litb, litm, litm2, or_n0, bit_r, fi0, fi1, fi2, fi3, nI_add, pk_mul, nI_leI, nI_ltI, nI_eq, pk_sub, ib_nI, nI_clamp, va_up_self, va_up_ne, va_up_up, va_up_comm, pk_us, pk_un, upd_up, updL_up, pk_uLs, pk_uLn, b01_1, b01_0, b01_1s, b01_0s, or_b, mm200, mu200, mm201, mu201, mm202, mu202, mm203, mu203, mm204, mu204, mm205, mu205, mm206, mu206, mm207, mu207, mm208, mu208, mm209, mu209, mm210, mu210, mm211, mu211, mm212, mu212, mm213, mu213, mm214, mu214, mm215, mu215, mm216, mu216, mm217, mu217, mm218, mu218, mm219, mu219, mm220, mu220, mm221, mu221, mm222, mu222, mm223, mu223, mm224, mu224, mm225, mu225, mm226, mu226, mm227, mu227, mm228, mu228, mm229, mu229, mm230, mu230, a12, bitOf_eq, tellI, e1, e2]
set_option maxHeartbeats 4000000 in
theorem worthOf_eq {q : Nat} (h : LSb (X 201) l) (hk : KS (X 201) k P S) (hq : q < S) : aw ET G d 208 0 [some (.ref 199), some (.int (nI q)), none] [] 231 sl (mem X Y) Q = Q [.int (worI k q (l 6 q))] 231 sl (mem X Y) := by
  obtain ⟨a1, a2, a3, a4, a5, a6, a7, a8, a9, a10, a11, a12⟩ := h
  obtain ⟨hP, hS, kP, kS, k1, k2, k3, k4, k5, k6, k7, k8, k9, k10, k11⟩ := hk
  simp (disch := omega) [w208_0, x208_1, w208_4, w208_6, w208_7, w208_8, w208_9, x208_10, w208_13, w208_15, w208_16, w208_17, w208_18, x208_19, w208_22, w208_25, w208_26, w208_27, w208_28, w208_29, w208_30, w208_31, w208_32, w208_35, w208_36, w208_39, w208_40, rt208, aw_st, ai_cls, ai_len, ai_p, ai_sw, ai_m, ai_c, ai_at, ai_isI, ai_isJ, ai_isA, ai_ld, ai_1i, ai_2i, ai_2l, ai_cn, ai_j, ai_set, ai_set2, ai_nl, ai_rs, ai_sm, Value.category, hk0, hk1, lits, litb, litm, litm2, or_n0, bit_r, fi0, fi1, fi2, fi3, nI_add, pk_mul, nI_leI, nI_ltI, nI_eq, pk_sub, ib_nI, nI_clamp, va_up_self, va_up_ne, va_up_up, va_up_comm, pk_us, pk_un, upd_up, updL_up, pk_uLs, pk_uLn, b01_1, b01_0, b01_1s, b01_0s, or_b, mm200, mu200, mm201, mu201, mm202, mu202, mm203, mu203, mm204, mu204, mm205, mu205, mm206, mu206, mm207, mu207, mm208, mu208, mm209, mu209, mm210, mu210, mm211, mu211, mm212, mu212, mm213, mu213, mm214, mu214, mm215, mu215, mm216, mu216, mm217, mu217, mm218, mu218, mm219, mu219, mm220, mu220, mm221, mu221, mm222, mu222, mm223, mu223, mm224, mu224, mm225, mu225, mm226, mu226, mm227, mu227, mm228, mu228, mm229, mu229, mm230, mu230, a11, k10, k11, worI]
  rcases lt_or (k 5 q - k 6 q * l 6 q) (nI 0) with ⟨g1, g2⟩ | ⟨g1, g2⟩
  · simp [g1, g2, show ¬ nI 0 < k 5 q - k 6 q * l 6 q from fun z => g2 (Int32.le_of_lt z)]
  · rcases lt_or (nI 0) (k 5 q - k 6 q * l 6 q) with ⟨g3, g4⟩ | ⟨g3, g4⟩
    · simp [g1, g2, g3]
    · simp [g1, g2, g3, Int32.le_antisymm g4 g2]
set_option maxHeartbeats 4000000 in
theorem tells_wp {a b q : Nat} (h : LSx (X 201) l) (hk : KS (X 201) k P S) (ha : a < 8) (hb : b < 8) (hq : q < S) (hQ : ∀ s', LSx s' (tellL l k a b q) → (∀ i, i < 132 ∨ 257 ≤ i → s' i = X 201 i) → Q [.int (worI k q (l 6 q))] 231 sl (mem (va_up X 201 s') Y)) : aw ET G (d + 2) 228 0 [some (.ref 199), some (.int (nI a)), some (.int (nI b)), some (.int (nI q)), none] [] 231 sl (mem X Y) Q := by
  have hw : ∀ (Q : List Value → Nat → Nat → ai_M → Prop), aw ET G (d + 1) 208 0 [some (.ref 199), some (.int (nI q)), none] [] 231 sl (mem X Y) Q = Q [.int (worI k q (l 6 q))] 231 sl (mem X Y) := fun Q => worthOf_eq h.1 hk hq
  have hh := h
  obtain ⟨⟨a1, a2, a3, a4, a5, a6, a7, a8, a9, a10, a11, a12⟩, a13⟩ := h
  have hS := hk.2.1
  simp (disch := omega) [w228_0, w228_1, x228_2, w228_5, w228_7, x228_8, w228_11, w228_14, w228_15, w228_16, w228_17, w228_18, w228_19, w228_20, w228_21, x228_22, w228_25, w228_28, w228_29, w228_30, w228_31, w228_32, w228_33, w228_34, w228_35, w228_36, w228_37, w228_38, w228_39, w228_40, x228_42, w228_45, w228_47, rt228, aw_st, ai_cls, ai_len, ai_p, ai_sw, ai_m, ai_c, ai_at, ai_isI, ai_isJ, ai_isA, ai_ld, ai_1i, ai_2i, ai_2l, ai_cn, ai_j, ai_set, ai_set2, ai_nl, ai_rs, ai_sm, Value.category, hk0, hk1, lits, litb, litm, litm2, or_n0, bit_r, fi0, fi1, fi2, fi3, nI_add, pk_mul, nI_leI, nI_ltI, nI_eq, pk_sub, ib_nI, nI_clamp, va_up_self, va_up_ne, va_up_up, va_up_comm, pk_us, pk_un, upd_up, updL_up, pk_uLs, pk_uLn, b01_1, b01_0, b01_1s, b01_0s, or_b, mm200, mu200, mm201, mu201, mm202, mu202, mm203, mu203, mm204, mu204, mm205, mu205, mm206, mu206, mm207, mu207, mm208, mu208, mm209, mu209, mm210, mu210, mm211, mu211, mm212, mu212, mm213, mu213, mm214, mu214, mm215, mu215, mm216, mu216, mm217, mu217, mm218, mu218, mm219, mu219, mm220, mu220, mm221, mu221, mm222, mu222, mm223, mu223, mm224, mu224, mm225, mu225, mm226, mu226, mm227, mu227, mm228, mu228, mm229, mu229, mm230, mu230, hw, a11, a12, comes_eq]
  apply hQ
  · refine ⟨LSb.cg (LSb_owe (LSb_u7 (LSb_u6 hh.1 (by omega) _) (by omega) _) hb ha _) (fun j => ?_), ?_⟩
    · simp only [tellL, vf_upd, show (1 : Int32) = nI 1 from rfl, show (31 : Int32) = nI 31 from rfl]
      by_cases j5 : j = 5
      · simp [j5]
      · by_cases j6 : j = 6
        · simp [j6]
        · by_cases j7 : j = 7
          · simp [j7]
          · simp [j5, j6, j7]
    · rw [oweS_no (by omega) hb ha]
      simp (disch := omega) [pk_un, tellL, vf_upd, a13]
  · intro i hi
    rw [oweS_no (by omega) hb ha]
    simp (disch := omega) [pk_un]
set_option maxHeartbeats 4000000 in
theorem isTooMuch_eq {p : Nat} (h : LSb (X 201) l) (hk : KS (X 201) k P S) (hp : p < P) : aw ET G (d + 1) 231 0 [some (.ref 199), some (.int (nI p))] [] 231 sl (mem X Y) Q = Q [.int (b01 (k 12 0 * k 1 p < rsum (l 5) (p * 8) 8 0))] 231 sl (mem X Y) := by
  have hP := hk.1
  have hd : ∀ (Q : List Value → Nat → Nat → ai_M → Prop), aw ET G d 203 0 [some (.ref 199), some (.int (nI p)), none, none] [] 231 sl (mem X Y) Q = Q [.int (rsum (l 5) (p * 8) 8 0)] 231 sl (mem X Y) := fun Q => debtOf_eq h (by omega)
  obtain ⟨hP, hS, kP, kS, k1, k2, k3, k4, k5, k6, k7, k8, k9, k10, k11⟩ := hk
  simp (disch := omega) [w231_0, w231_1, x231_2, w231_5, x231_6, w231_9, w231_10, w231_11, x231_12, w231_15, w231_17, w231_18, w231_19, w231_20, w231_21, w231_24, w231_25, w231_28, w231_29, rt231, aw_st, ai_cls, ai_len, ai_p, ai_sw, ai_m, ai_c, ai_at, ai_isI, ai_isJ, ai_isA, ai_ld, ai_1i, ai_2i, ai_2l, ai_cn, ai_j, ai_set, ai_set2, ai_nl, ai_rs, ai_sm, Value.category, hk0, hk1, lits, litb, litm, litm2, or_n0, bit_r, fi0, fi1, fi2, fi3, nI_add, pk_mul, nI_leI, nI_ltI, nI_eq, pk_sub, ib_nI, nI_clamp, va_up_self, va_up_ne, va_up_up, va_up_comm, pk_us, pk_un, upd_up, updL_up, pk_uLs, pk_uLn, b01_1, b01_0, b01_1s, b01_0s, or_b, mm200, mu200, mm201, mu201, mm202, mu202, mm203, mu203, mm204, mu204, mm205, mu205, mm206, mu206, mm207, mu207, mm208, mu208, mm209, mu209, mm210, mu210, mm211, mu211, mm212, mu212, mm213, mu213, mm214, mu214, mm215, mu215, mm216, mu216, mm217, mu217, mm218, mu218, mm219, mu219, mm220, mu220, mm221, mu221, mm222, mu222, mm223, mu223, mm224, mu224, mm225, mu225, mm226, mu226, mm227, mu227, mm228, mu228, mm229, mu229, mm230, mu230, hd, k4, k5]
  rcases lt_or (k 12 0 * k 1 p) (rsum (l 5) (p * 8) 8 (nI 0)) with ⟨g1, g2⟩ | ⟨g1, g2⟩ <;> simp [g1, g2, b01, show (0 : Int32) = nI 0 from rfl, show (1 : Int32) = nI 1 from rfl]
end RFC
