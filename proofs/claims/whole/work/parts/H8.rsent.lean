/-! A SENTENCE's text: the reference, behind an operand -/
section RSB
variable {G : ai_G} {d sl : Nat} {Q : List Value → Nat → Nat → ai_M → Prop} {Y : mY} {X : mX} {c : TC} {i P S o : Nat} {nm : Nat → List Nat} {L : List SC} {s : List Nat} {w : Bool}
def lfN (y : Nat) : Int32 := if y = 14 ∨ y = 3 ∨ y = 4 ∨ y = 15 ∨ y = 1 ∨ isMs y = true then nI (rkc y) else mi1
set_option maxHeartbeats 16000000 in
theorem leafOf_eq (h : RDR c i (X 199) (Y 199)) (ok : OKr c X) (hi : i ≤ c.2.1) : aw ET G (d + 1) 282 0 [some (.ref 199)] [] 231 sl (mem X Y) Q = Q [.int (lfN (cY c i))] 231 sl (mem X Y) := by
  have hw := fun (j : Nat) (hj : j < 21) (Q : List Value → Nat → Nat → ai_M → Prop) => GW (G := G) (d := d) (sl := sl) (Q := Q) (X := X) (Y := Y) hj h ok hi
  have w14 := hw 14 (by omega)
  have w3 := hw 3 (by omega)
  have w4 := hw 4 (by omega)
  have w15 := hw 15 (by omega)
  have w1 := hw 1 (by omega)
  have w16 := hw 16 (by omega)
  have w17 := hw 17 (by omega)
  have w18 := hw 18 (by omega)
  have w19 := hw 19 (by omega)
  have w20 := hw 20 (by omega)
  generalize cY c i = y at *
  by_cases a14 : y = 14
  · subst a14; simp (disch := omega) [w282_0, w282_1, x282_4, w282_7, w282_10, w282_11, w282_14, w282_15, x282_18, w282_21, w282_24, w282_25, w282_28, w282_29, x282_32, w282_35, w282_38, w282_39, w282_42, w282_43, x282_46, w282_49, w282_52, w282_53, w282_56, w282_57, x282_60, w282_63, w282_66, w282_67, w282_70, w282_71, x282_74, w282_77, w282_80, w282_81, w282_84, w282_85, x282_88, w282_91, w282_94, w282_96, w282_99, w282_100, x282_103, w282_106, w282_109, w282_111, w282_114, w282_115, x282_118, w282_121, w282_124, w282_126, w282_129, w282_130, x282_133, w282_136, w282_139, w282_141, w282_144, w282_145, rt282, ow282, pl12_160, pl12_138, pl12_140, pl12_162, pl12_134, pl12_164, pl12_166, pl12_168, pl12_170, pl12_172, rt282, aw_st, ai_cls, ai_len, ai_p, ai_sw, ai_m, ai_c, ai_at, ai_isI, ai_isJ, ai_isA, ai_ld, ai_1i, ai_2i, ai_2l, ai_cn, ai_j, ai_set, ai_set2, ai_nl, ai_rs, ai_sm, Value.category, hk0, hk1, lits, litb, litm, litm2, List.getElem?_cons_zero, List.getElem?_cons_succ, or_n0, bit_r, fi0, fi1, fi2, fi3, nI_toInt, nI_add, pk_mul, nI_leI, nI_ltI, nI_eq, pk_sub, ib_nI, nI_clamp, va_up_self, va_up_ne, va_up_up, va_up_comm, pk_us, pk_un, upd_up, updL_up, pk_uLs, pk_uLn, b01_1, b01_0, b01_1s, b01_0s, or_b, mm200, mu200, mm201, mu201, mm202, mu202, mm203, mu203, mm204, mu204, mm205, mu205, mm206, mu206, mm207, mu207, mm208, mu208, mm209, mu209, mm210, mu210, mm211, mu211, mm212, mu212, mm213, mu213, mm214, mu214, mm215, mu215, mm216, mu216, mm217, mu217, mm218, mu218, mm219, mu219, mm220, mu220, mm221, mu221, mm222, mu222, mm223, mu223, mm224, mu224, mm225, mu225, mm226, mu226, mm227, mu227, mm228, mu228, mm229, mu229, mm230, mu230, ofN, klv, w14, lfN, rkc]
  by_cases a3 : y = 3
  · subst a3; simp (disch := omega) [w282_0, w282_1, x282_4, w282_7, w282_10, w282_11, w282_14, w282_15, x282_18, w282_21, w282_24, w282_25, w282_28, w282_29, x282_32, w282_35, w282_38, w282_39, w282_42, w282_43, x282_46, w282_49, w282_52, w282_53, w282_56, w282_57, x282_60, w282_63, w282_66, w282_67, w282_70, w282_71, x282_74, w282_77, w282_80, w282_81, w282_84, w282_85, x282_88, w282_91, w282_94, w282_96, w282_99, w282_100, x282_103, w282_106, w282_109, w282_111, w282_114, w282_115, x282_118, w282_121, w282_124, w282_126, w282_129, w282_130, x282_133, w282_136, w282_139, w282_141, w282_144, w282_145, rt282, ow282, pl12_160, pl12_138, pl12_140, pl12_162, pl12_134, pl12_164, pl12_166, pl12_168, pl12_170, pl12_172, rt282, aw_st, ai_cls, ai_len, ai_p, ai_sw, ai_m, ai_c, ai_at, ai_isI, ai_isJ, ai_isA, ai_ld, ai_1i, ai_2i, ai_2l, ai_cn, ai_j, ai_set, ai_set2, ai_nl, ai_rs, ai_sm, Value.category, hk0, hk1, lits, litb, litm, litm2, List.getElem?_cons_zero, List.getElem?_cons_succ, or_n0, bit_r, fi0, fi1, fi2, fi3, nI_toInt, nI_add, pk_mul, nI_leI, nI_ltI, nI_eq, pk_sub, ib_nI, nI_clamp, va_up_self, va_up_ne, va_up_up, va_up_comm, pk_us, pk_un, upd_up, updL_up, pk_uLs, pk_uLn, b01_1, b01_0, b01_1s, b01_0s, or_b, mm200, mu200, mm201, mu201, mm202, mu202, mm203, mu203, mm204, mu204, mm205, mu205, mm206, mu206, mm207, mu207, mm208, mu208, mm209, mu209, mm210, mu210, mm211, mu211, mm212, mu212, mm213, mu213, mm214, mu214, mm215, mu215, mm216, mu216, mm217, mu217, mm218, mu218, mm219, mu219, mm220, mu220, mm221, mu221, mm222, mu222, mm223, mu223, mm224, mu224, mm225, mu225, mm226, mu226, mm227, mu227, mm228, mu228, mm229, mu229, mm230, mu230, ofN, klv, w14, w3, lfN, rkc]
  by_cases a4 : y = 4
  · subst a4; simp (disch := omega) [w282_0, w282_1, x282_4, w282_7, w282_10, w282_11, w282_14, w282_15, x282_18, w282_21, w282_24, w282_25, w282_28, w282_29, x282_32, w282_35, w282_38, w282_39, w282_42, w282_43, x282_46, w282_49, w282_52, w282_53, w282_56, w282_57, x282_60, w282_63, w282_66, w282_67, w282_70, w282_71, x282_74, w282_77, w282_80, w282_81, w282_84, w282_85, x282_88, w282_91, w282_94, w282_96, w282_99, w282_100, x282_103, w282_106, w282_109, w282_111, w282_114, w282_115, x282_118, w282_121, w282_124, w282_126, w282_129, w282_130, x282_133, w282_136, w282_139, w282_141, w282_144, w282_145, rt282, ow282, pl12_160, pl12_138, pl12_140, pl12_162, pl12_134, pl12_164, pl12_166, pl12_168, pl12_170, pl12_172, rt282, aw_st, ai_cls, ai_len, ai_p, ai_sw, ai_m, ai_c, ai_at, ai_isI, ai_isJ, ai_isA, ai_ld, ai_1i, ai_2i, ai_2l, ai_cn, ai_j, ai_set, ai_set2, ai_nl, ai_rs, ai_sm, Value.category, hk0, hk1, lits, litb, litm, litm2, List.getElem?_cons_zero, List.getElem?_cons_succ, or_n0, bit_r, fi0, fi1, fi2, fi3, nI_toInt, nI_add, pk_mul, nI_leI, nI_ltI, nI_eq, pk_sub, ib_nI, nI_clamp, va_up_self, va_up_ne, va_up_up, va_up_comm, pk_us, pk_un, upd_up, updL_up, pk_uLs, pk_uLn, b01_1, b01_0, b01_1s, b01_0s, or_b, mm200, mu200, mm201, mu201, mm202, mu202, mm203, mu203, mm204, mu204, mm205, mu205, mm206, mu206, mm207, mu207, mm208, mu208, mm209, mu209, mm210, mu210, mm211, mu211, mm212, mu212, mm213, mu213, mm214, mu214, mm215, mu215, mm216, mu216, mm217, mu217, mm218, mu218, mm219, mu219, mm220, mu220, mm221, mu221, mm222, mu222, mm223, mu223, mm224, mu224, mm225, mu225, mm226, mu226, mm227, mu227, mm228, mu228, mm229, mu229, mm230, mu230, ofN, klv, w14, w3, w4, lfN, rkc]
  by_cases a15 : y = 15
  · subst a15; simp (disch := omega) [w282_0, w282_1, x282_4, w282_7, w282_10, w282_11, w282_14, w282_15, x282_18, w282_21, w282_24, w282_25, w282_28, w282_29, x282_32, w282_35, w282_38, w282_39, w282_42, w282_43, x282_46, w282_49, w282_52, w282_53, w282_56, w282_57, x282_60, w282_63, w282_66, w282_67, w282_70, w282_71, x282_74, w282_77, w282_80, w282_81, w282_84, w282_85, x282_88, w282_91, w282_94, w282_96, w282_99, w282_100, x282_103, w282_106, w282_109, w282_111, w282_114, w282_115, x282_118, w282_121, w282_124, w282_126, w282_129, w282_130, x282_133, w282_136, w282_139, w282_141, w282_144, w282_145, rt282, ow282, pl12_160, pl12_138, pl12_140, pl12_162, pl12_134, pl12_164, pl12_166, pl12_168, pl12_170, pl12_172, rt282, aw_st, ai_cls, ai_len, ai_p, ai_sw, ai_m, ai_c, ai_at, ai_isI, ai_isJ, ai_isA, ai_ld, ai_1i, ai_2i, ai_2l, ai_cn, ai_j, ai_set, ai_set2, ai_nl, ai_rs, ai_sm, Value.category, hk0, hk1, lits, litb, litm, litm2, List.getElem?_cons_zero, List.getElem?_cons_succ, or_n0, bit_r, fi0, fi1, fi2, fi3, nI_toInt, nI_add, pk_mul, nI_leI, nI_ltI, nI_eq, pk_sub, ib_nI, nI_clamp, va_up_self, va_up_ne, va_up_up, va_up_comm, pk_us, pk_un, upd_up, updL_up, pk_uLs, pk_uLn, b01_1, b01_0, b01_1s, b01_0s, or_b, mm200, mu200, mm201, mu201, mm202, mu202, mm203, mu203, mm204, mu204, mm205, mu205, mm206, mu206, mm207, mu207, mm208, mu208, mm209, mu209, mm210, mu210, mm211, mu211, mm212, mu212, mm213, mu213, mm214, mu214, mm215, mu215, mm216, mu216, mm217, mu217, mm218, mu218, mm219, mu219, mm220, mu220, mm221, mu221, mm222, mu222, mm223, mu223, mm224, mu224, mm225, mu225, mm226, mu226, mm227, mu227, mm228, mu228, mm229, mu229, mm230, mu230, ofN, klv, w14, w3, w4, w15, lfN, rkc]
  by_cases a1 : y = 1
  · subst a1; simp (disch := omega) [w282_0, w282_1, x282_4, w282_7, w282_10, w282_11, w282_14, w282_15, x282_18, w282_21, w282_24, w282_25, w282_28, w282_29, x282_32, w282_35, w282_38, w282_39, w282_42, w282_43, x282_46, w282_49, w282_52, w282_53, w282_56, w282_57, x282_60, w282_63, w282_66, w282_67, w282_70, w282_71, x282_74, w282_77, w282_80, w282_81, w282_84, w282_85, x282_88, w282_91, w282_94, w282_96, w282_99, w282_100, x282_103, w282_106, w282_109, w282_111, w282_114, w282_115, x282_118, w282_121, w282_124, w282_126, w282_129, w282_130, x282_133, w282_136, w282_139, w282_141, w282_144, w282_145, rt282, ow282, pl12_160, pl12_138, pl12_140, pl12_162, pl12_134, pl12_164, pl12_166, pl12_168, pl12_170, pl12_172, rt282, aw_st, ai_cls, ai_len, ai_p, ai_sw, ai_m, ai_c, ai_at, ai_isI, ai_isJ, ai_isA, ai_ld, ai_1i, ai_2i, ai_2l, ai_cn, ai_j, ai_set, ai_set2, ai_nl, ai_rs, ai_sm, Value.category, hk0, hk1, lits, litb, litm, litm2, List.getElem?_cons_zero, List.getElem?_cons_succ, or_n0, bit_r, fi0, fi1, fi2, fi3, nI_toInt, nI_add, pk_mul, nI_leI, nI_ltI, nI_eq, pk_sub, ib_nI, nI_clamp, va_up_self, va_up_ne, va_up_up, va_up_comm, pk_us, pk_un, upd_up, updL_up, pk_uLs, pk_uLn, b01_1, b01_0, b01_1s, b01_0s, or_b, mm200, mu200, mm201, mu201, mm202, mu202, mm203, mu203, mm204, mu204, mm205, mu205, mm206, mu206, mm207, mu207, mm208, mu208, mm209, mu209, mm210, mu210, mm211, mu211, mm212, mu212, mm213, mu213, mm214, mu214, mm215, mu215, mm216, mu216, mm217, mu217, mm218, mu218, mm219, mu219, mm220, mu220, mm221, mu221, mm222, mu222, mm223, mu223, mm224, mu224, mm225, mu225, mm226, mu226, mm227, mu227, mm228, mu228, mm229, mu229, mm230, mu230, ofN, klv, w14, w3, w4, w15, w1, lfN, rkc]
  by_cases a16 : y = 16
  · subst a16; simp (disch := omega) [w282_0, w282_1, x282_4, w282_7, w282_10, w282_11, w282_14, w282_15, x282_18, w282_21, w282_24, w282_25, w282_28, w282_29, x282_32, w282_35, w282_38, w282_39, w282_42, w282_43, x282_46, w282_49, w282_52, w282_53, w282_56, w282_57, x282_60, w282_63, w282_66, w282_67, w282_70, w282_71, x282_74, w282_77, w282_80, w282_81, w282_84, w282_85, x282_88, w282_91, w282_94, w282_96, w282_99, w282_100, x282_103, w282_106, w282_109, w282_111, w282_114, w282_115, x282_118, w282_121, w282_124, w282_126, w282_129, w282_130, x282_133, w282_136, w282_139, w282_141, w282_144, w282_145, rt282, ow282, pl12_160, pl12_138, pl12_140, pl12_162, pl12_134, pl12_164, pl12_166, pl12_168, pl12_170, pl12_172, rt282, aw_st, ai_cls, ai_len, ai_p, ai_sw, ai_m, ai_c, ai_at, ai_isI, ai_isJ, ai_isA, ai_ld, ai_1i, ai_2i, ai_2l, ai_cn, ai_j, ai_set, ai_set2, ai_nl, ai_rs, ai_sm, Value.category, hk0, hk1, lits, litb, litm, litm2, List.getElem?_cons_zero, List.getElem?_cons_succ, or_n0, bit_r, fi0, fi1, fi2, fi3, nI_toInt, nI_add, pk_mul, nI_leI, nI_ltI, nI_eq, pk_sub, ib_nI, nI_clamp, va_up_self, va_up_ne, va_up_up, va_up_comm, pk_us, pk_un, upd_up, updL_up, pk_uLs, pk_uLn, b01_1, b01_0, b01_1s, b01_0s, or_b, mm200, mu200, mm201, mu201, mm202, mu202, mm203, mu203, mm204, mu204, mm205, mu205, mm206, mu206, mm207, mu207, mm208, mu208, mm209, mu209, mm210, mu210, mm211, mu211, mm212, mu212, mm213, mu213, mm214, mu214, mm215, mu215, mm216, mu216, mm217, mu217, mm218, mu218, mm219, mu219, mm220, mu220, mm221, mu221, mm222, mu222, mm223, mu223, mm224, mu224, mm225, mu225, mm226, mu226, mm227, mu227, mm228, mu228, mm229, mu229, mm230, mu230, ofN, klv, w14, w3, w4, w15, w1, w16, lfN, rkc, isMs]
  by_cases a17 : y = 17
  · subst a17; simp (disch := omega) [w282_0, w282_1, x282_4, w282_7, w282_10, w282_11, w282_14, w282_15, x282_18, w282_21, w282_24, w282_25, w282_28, w282_29, x282_32, w282_35, w282_38, w282_39, w282_42, w282_43, x282_46, w282_49, w282_52, w282_53, w282_56, w282_57, x282_60, w282_63, w282_66, w282_67, w282_70, w282_71, x282_74, w282_77, w282_80, w282_81, w282_84, w282_85, x282_88, w282_91, w282_94, w282_96, w282_99, w282_100, x282_103, w282_106, w282_109, w282_111, w282_114, w282_115, x282_118, w282_121, w282_124, w282_126, w282_129, w282_130, x282_133, w282_136, w282_139, w282_141, w282_144, w282_145, rt282, ow282, pl12_160, pl12_138, pl12_140, pl12_162, pl12_134, pl12_164, pl12_166, pl12_168, pl12_170, pl12_172, rt282, aw_st, ai_cls, ai_len, ai_p, ai_sw, ai_m, ai_c, ai_at, ai_isI, ai_isJ, ai_isA, ai_ld, ai_1i, ai_2i, ai_2l, ai_cn, ai_j, ai_set, ai_set2, ai_nl, ai_rs, ai_sm, Value.category, hk0, hk1, lits, litb, litm, litm2, List.getElem?_cons_zero, List.getElem?_cons_succ, or_n0, bit_r, fi0, fi1, fi2, fi3, nI_toInt, nI_add, pk_mul, nI_leI, nI_ltI, nI_eq, pk_sub, ib_nI, nI_clamp, va_up_self, va_up_ne, va_up_up, va_up_comm, pk_us, pk_un, upd_up, updL_up, pk_uLs, pk_uLn, b01_1, b01_0, b01_1s, b01_0s, or_b, mm200, mu200, mm201, mu201, mm202, mu202, mm203, mu203, mm204, mu204, mm205, mu205, mm206, mu206, mm207, mu207, mm208, mu208, mm209, mu209, mm210, mu210, mm211, mu211, mm212, mu212, mm213, mu213, mm214, mu214, mm215, mu215, mm216, mu216, mm217, mu217, mm218, mu218, mm219, mu219, mm220, mu220, mm221, mu221, mm222, mu222, mm223, mu223, mm224, mu224, mm225, mu225, mm226, mu226, mm227, mu227, mm228, mu228, mm229, mu229, mm230, mu230, ofN, klv, w14, w3, w4, w15, w1, w16, w17, lfN, rkc, isMs]
  by_cases a18 : y = 18
  · subst a18; simp (disch := omega) [w282_0, w282_1, x282_4, w282_7, w282_10, w282_11, w282_14, w282_15, x282_18, w282_21, w282_24, w282_25, w282_28, w282_29, x282_32, w282_35, w282_38, w282_39, w282_42, w282_43, x282_46, w282_49, w282_52, w282_53, w282_56, w282_57, x282_60, w282_63, w282_66, w282_67, w282_70, w282_71, x282_74, w282_77, w282_80, w282_81, w282_84, w282_85, x282_88, w282_91, w282_94, w282_96, w282_99, w282_100, x282_103, w282_106, w282_109, w282_111, w282_114, w282_115, x282_118, w282_121, w282_124, w282_126, w282_129, w282_130, x282_133, w282_136, w282_139, w282_141, w282_144, w282_145, rt282, ow282, pl12_160, pl12_138, pl12_140, pl12_162, pl12_134, pl12_164, pl12_166, pl12_168, pl12_170, pl12_172, rt282, aw_st, ai_cls, ai_len, ai_p, ai_sw, ai_m, ai_c, ai_at, ai_isI, ai_isJ, ai_isA, ai_ld, ai_1i, ai_2i, ai_2l, ai_cn, ai_j, ai_set, ai_set2, ai_nl, ai_rs, ai_sm, Value.category, hk0, hk1, lits, litb, litm, litm2, List.getElem?_cons_zero, List.getElem?_cons_succ, or_n0, bit_r, fi0, fi1, fi2, fi3, nI_toInt, nI_add, pk_mul, nI_leI, nI_ltI, nI_eq, pk_sub, ib_nI, nI_clamp, va_up_self, va_up_ne, va_up_up, va_up_comm, pk_us, pk_un, upd_up, updL_up, pk_uLs, pk_uLn, b01_1, b01_0, b01_1s, b01_0s, or_b, mm200, mu200, mm201, mu201, mm202, mu202, mm203, mu203, mm204, mu204, mm205, mu205, mm206, mu206, mm207, mu207, mm208, mu208, mm209, mu209, mm210, mu210, mm211, mu211, mm212, mu212, mm213, mu213, mm214, mu214, mm215, mu215, mm216, mu216, mm217, mu217, mm218, mu218, mm219, mu219, mm220, mu220, mm221, mu221, mm222, mu222, mm223, mu223, mm224, mu224, mm225, mu225, mm226, mu226, mm227, mu227, mm228, mu228, mm229, mu229, mm230, mu230, ofN, klv, w14, w3, w4, w15, w1, w16, w17, w18, lfN, rkc, isMs]
  by_cases a19 : y = 19
  · subst a19; simp (disch := omega) [w282_0, w282_1, x282_4, w282_7, w282_10, w282_11, w282_14, w282_15, x282_18, w282_21, w282_24, w282_25, w282_28, w282_29, x282_32, w282_35, w282_38, w282_39, w282_42, w282_43, x282_46, w282_49, w282_52, w282_53, w282_56, w282_57, x282_60, w282_63, w282_66, w282_67, w282_70, w282_71, x282_74, w282_77, w282_80, w282_81, w282_84, w282_85, x282_88, w282_91, w282_94, w282_96, w282_99, w282_100, x282_103, w282_106, w282_109, w282_111, w282_114, w282_115, x282_118, w282_121, w282_124, w282_126, w282_129, w282_130, x282_133, w282_136, w282_139, w282_141, w282_144, w282_145, rt282, ow282, pl12_160, pl12_138, pl12_140, pl12_162, pl12_134, pl12_164, pl12_166, pl12_168, pl12_170, pl12_172, rt282, aw_st, ai_cls, ai_len, ai_p, ai_sw, ai_m, ai_c, ai_at, ai_isI, ai_isJ, ai_isA, ai_ld, ai_1i, ai_2i, ai_2l, ai_cn, ai_j, ai_set, ai_set2, ai_nl, ai_rs, ai_sm, Value.category, hk0, hk1, lits, litb, litm, litm2, List.getElem?_cons_zero, List.getElem?_cons_succ, or_n0, bit_r, fi0, fi1, fi2, fi3, nI_toInt, nI_add, pk_mul, nI_leI, nI_ltI, nI_eq, pk_sub, ib_nI, nI_clamp, va_up_self, va_up_ne, va_up_up, va_up_comm, pk_us, pk_un, upd_up, updL_up, pk_uLs, pk_uLn, b01_1, b01_0, b01_1s, b01_0s, or_b, mm200, mu200, mm201, mu201, mm202, mu202, mm203, mu203, mm204, mu204, mm205, mu205, mm206, mu206, mm207, mu207, mm208, mu208, mm209, mu209, mm210, mu210, mm211, mu211, mm212, mu212, mm213, mu213, mm214, mu214, mm215, mu215, mm216, mu216, mm217, mu217, mm218, mu218, mm219, mu219, mm220, mu220, mm221, mu221, mm222, mu222, mm223, mu223, mm224, mu224, mm225, mu225, mm226, mu226, mm227, mu227, mm228, mu228, mm229, mu229, mm230, mu230, ofN, klv, w14, w3, w4, w15, w1, w16, w17, w18, w19, lfN, rkc, isMs]
  by_cases a20 : y = 20
  · subst a20; simp (disch := omega) [w282_0, w282_1, x282_4, w282_7, w282_10, w282_11, w282_14, w282_15, x282_18, w282_21, w282_24, w282_25, w282_28, w282_29, x282_32, w282_35, w282_38, w282_39, w282_42, w282_43, x282_46, w282_49, w282_52, w282_53, w282_56, w282_57, x282_60, w282_63, w282_66, w282_67, w282_70, w282_71, x282_74, w282_77, w282_80, w282_81, w282_84, w282_85, x282_88, w282_91, w282_94, w282_96, w282_99, w282_100, x282_103, w282_106, w282_109, w282_111, w282_114, w282_115, x282_118, w282_121, w282_124, w282_126, w282_129, w282_130, x282_133, w282_136, w282_139, w282_141, w282_144, w282_145, rt282, ow282, pl12_160, pl12_138, pl12_140, pl12_162, pl12_134, pl12_164, pl12_166, pl12_168, pl12_170, pl12_172, rt282, aw_st, ai_cls, ai_len, ai_p, ai_sw, ai_m, ai_c, ai_at, ai_isI, ai_isJ, ai_isA, ai_ld, ai_1i, ai_2i, ai_2l, ai_cn, ai_j, ai_set, ai_set2, ai_nl, ai_rs, ai_sm, Value.category, hk0, hk1, lits, litb, litm, litm2, List.getElem?_cons_zero, List.getElem?_cons_succ, or_n0, bit_r, fi0, fi1, fi2, fi3, nI_toInt, nI_add, pk_mul, nI_leI, nI_ltI, nI_eq, pk_sub, ib_nI, nI_clamp, va_up_self, va_up_ne, va_up_up, va_up_comm, pk_us, pk_un, upd_up, updL_up, pk_uLs, pk_uLn, b01_1, b01_0, b01_1s, b01_0s, or_b, mm200, mu200, mm201, mu201, mm202, mu202, mm203, mu203, mm204, mu204, mm205, mu205, mm206, mu206, mm207, mu207, mm208, mu208, mm209, mu209, mm210, mu210, mm211, mu211, mm212, mu212, mm213, mu213, mm214, mu214, mm215, mu215, mm216, mu216, mm217, mu217, mm218, mu218, mm219, mu219, mm220, mu220, mm221, mu221, mm222, mu222, mm223, mu223, mm224, mu224, mm225, mu225, mm226, mu226, mm227, mu227, mm228, mu228, mm229, mu229, mm230, mu230, ofN, klv, w14, w3, w4, w15, w1, w16, w17, w18, w19, w20, lfN, rkc, isMs]
  have hn : ¬ (y = 14 ∨ y = 3 ∨ y = 4 ∨ y = 15 ∨ y = 1 ∨ isMs y = true) := by
    unfold isMs
    simp only [Bool.and_eq_true, decide_eq_true_eq]
    omega
  have e : lfN y = mi1 := by unfold lfN; rw [if_neg hn]
  rw [e]
  simp (disch := omega) [w282_0, w282_1, x282_4, w282_7, w282_10, w282_11, w282_14, w282_15, x282_18, w282_21, w282_24, w282_25, w282_28, w282_29, x282_32, w282_35, w282_38, w282_39, w282_42, w282_43, x282_46, w282_49, w282_52, w282_53, w282_56, w282_57, x282_60, w282_63, w282_66, w282_67, w282_70, w282_71, x282_74, w282_77, w282_80, w282_81, w282_84, w282_85, x282_88, w282_91, w282_94, w282_96, w282_99, w282_100, x282_103, w282_106, w282_109, w282_111, w282_114, w282_115, x282_118, w282_121, w282_124, w282_126, w282_129, w282_130, x282_133, w282_136, w282_139, w282_141, w282_144, w282_145, rt282, ow282, pl12_160, pl12_138, pl12_140, pl12_162, pl12_134, pl12_164, pl12_166, pl12_168, pl12_170, pl12_172, rt282, aw_st, ai_cls, ai_len, ai_p, ai_sw, ai_m, ai_c, ai_at, ai_isI, ai_isJ, ai_isA, ai_ld, ai_1i, ai_2i, ai_2l, ai_cn, ai_j, ai_set, ai_set2, ai_nl, ai_rs, ai_sm, Value.category, hk0, hk1, lits, litb, litm, litm2, List.getElem?_cons_zero, List.getElem?_cons_succ, or_n0, bit_r, fi0, fi1, fi2, fi3, nI_toInt, nI_add, pk_mul, nI_leI, nI_ltI, nI_eq, pk_sub, ib_nI, nI_clamp, va_up_self, va_up_ne, va_up_up, va_up_comm, pk_us, pk_un, upd_up, updL_up, pk_uLs, pk_uLn, b01_1, b01_0, b01_1s, b01_0s, or_b, mm200, mu200, mm201, mu201, mm202, mu202, mm203, mu203, mm204, mu204, mm205, mu205, mm206, mu206, mm207, mu207, mm208, mu208, mm209, mu209, mm210, mu210, mm211, mu211, mm212, mu212, mm213, mu213, mm214, mu214, mm215, mu215, mm216, mu216, mm217, mu217, mm218, mu218, mm219, mu219, mm220, mu220, mm221, mu221, mm222, mu222, mm223, mu223, mm224, mu224, mm225, mu225, mm226, mu226, mm227, mu227, mm228, mu228, mm229, mu229, mm230, mu230, ofN, klv, w14, w3, w4, w15, w1, w16, w17, w18, w19, w20, a14, a3, a4, a15, a1, a16, a17, a18, a19, a20]
theorem nt_dc : ∀ (s : List Nat) (L : List SC), (ntS L s (dcS s)).2.2 = dcS (ntS L s (dcS s)).2.1 ∧ (ntS L s (dcS s)).1.length + (ntS L s (dcS s)).2.1.length = L.length + s.length := by
  intro s
  induction s with
  | nil => intro L; exact ⟨rfl, rfl⟩
  | cons a r ih =>
    intro L
    by_cases q : a = 13
    · subst q
      have e : ntS L (13 :: r) (dcS (13 :: r)) = ntS (L ++ [opc 13]) r (dcS r) := rfl
      rw [e]
      refine ⟨(ih _).1, (ih _).2.trans ?_⟩
      rw [List.length_append]
      show L.length + 1 + r.length = L.length + (r.length + 1)
      omega
    · rw [ntS_no (fun r' e => q (by injection e))]
      exact ⟨rfl, rfl⟩
theorem jn_dc {a : Nat} : ∀ (s : List Nat) (L : List SC), dcS (jnS a L s).2 = dcS s ∧ (jnS a L s).1.length + (jnS a L s).2.length = L.length + s.length := by
  intro s
  induction s with
  | nil => intro L; exact ⟨rfl, rfl⟩
  | cons b r ih =>
    intro L
    have hl : ∀ y, (L ++ [opc y]).length + r.length = L.length + (b :: r).length := fun y => by
      rw [List.length_append]
      show L.length + 1 + r.length = L.length + (r.length + 1)
      omega
    unfold jnS
    split
    · rename_i e
      injection e with e1 e2
      subst e1 e2
      exact ⟨(ih _).1, (ih _).2.trans (hl 12)⟩
    · rename_i e
      injection e with e1 e2
      subst e1 e2
      split
      · exact ⟨(ih _).1, (ih _).2.trans (hl 11)⟩
      · exact ⟨rfl, rfl⟩
    · exact ⟨rfl, rfl⟩
theorem jn_head {b : Nat} {r : List Nat} : ∀ (s : List Nat) (L : List SC), (jnS 11 L s).2 = b :: r → ¬ b = 12 ∧ ¬ b = 11 := by
  intro s
  induction s with
  | nil => intro L h; cases h
  | cons a q ih =>
    intro L h
    unfold jnS at h
    split at h
    · rename_i e
      injection e with e1 e2
      subst e1 e2
      exact ih _ h
    · rename_i e
      injection e with e1 e2
      subst e1 e2
      rw [if_pos rfl] at h
      exact ih _ h
    · rename_i n1 n2
      have h : a :: q = b :: r := h
      injection h with h1 h2
      subst h1 h2
      exact ⟨fun e => n1 q (by rw [e]), fun e => n2 q (by rw [e])⟩
theorem stkS_cg {R R' : Nat → Int32} : ∀ (s : List Nat), (∀ q, q < s.length → R' q = R q) → stkS R s → stkS R' s := by
  intro s
  induction s with
  | nil => intro _ _; trivial
  | cons a r ih =>
    intro h g
    exact ⟨by rw [h r.length (Nat.lt_succ_self _)]; exact g.1, ih (fun q hq => h q (Nat.lt_succ_of_lt hq)) g.2⟩
theorem SR_push {X' : mX} {a o' : Nat} {w' : Bool} (h : SR X L s o w) (ha : a = 13 ∨ a = 12 ∨ a = 11 ∨ a = 40) (e56 : X' 199 56 = X 199 56) (e57 : X' 199 57 = nI o') (e58 : X' 199 58 = nI (s.length + 1)) (e59 : X' 199 59 = nI (dcS (a :: s))) (e60 : X' 199 60 = b01 (w' = true)) (e203 : X' 203 = X 203) (e225 : X' 225 = upd (X 225) s.length (nI (rkc a))) : SR X' L (a :: s) o' w' := by
  obtain ⟨h1, h2, h3, h4, h5, h6, h7, h8⟩ := h
  refine ⟨by rw [e56]; exact h1, e57, e58, e59, e60, by rw [e203]; exact h6, ⟨by rw [e225, pk_us], ?_⟩, fun b hb => ?_⟩
  · refine stkS_cg s (fun q hq => ?_) h7
    rw [e225, pk_un (by omega)]
  · rcases List.mem_cons.mp hb with e | e
    · rw [e]; exact ha
    · exact h8 b e
abbrev kBad (Q : List Value → Nat → Nat → ai_M → Prop) (sl : Nat) (c : TC) (X : mX) (Y : mY) (z : (Nat × Nat) ⊕ AS) : Prop := ∀ e j, z = .inl (e, j) → ∀ X' Y', KX X Y X' Y' → X' 199 15 = nI e → X' 199 16 = nI (cP c j) → Q [.int (nI 0)] 231 sl (mem X' Y')
/-- a state of the steps, held by the reference -/
def SRA (c : TC) (X : mX) (Y : mY) (a : AS) : Prop := SR X a.2.2.2.1 a.2.2.2.2.1 a.2.2.1 a.1 ∧ RDR c a.2.1 (X 199) (Y 199) ∧ a.2.1 ≤ c.2.1 ∧ a.2.2.2.2.2 = dcS a.2.2.2.2.1
abbrev kOk (Q : List Value → Nat → Nat → ai_M → Prop) (sl : Nat) (c : TC) (X : mX) (Y : mY) (z : (Nat × Nat) ⊕ AS) : Prop := ∀ a, z = .inr a → ∀ X' Y', KX X Y X' Y' → SRA c X' Y' a → X' 199 15 = X 199 15 → Q [.int (nI 1)] 231 sl (mem X' Y')
set_option maxHeartbeats 16000000 in
theorem behind_wp (hs : SR X L s o true) (h : RDR c i (X 199) (Y 199)) (ok : OKr c X) (hi : i ≤ c.2.1) (hl : L.length + s.length ≤ 42) (h0 : ¬ cK c i = 0) (hQ1 : kBad Q sl c X Y (bhS c i o L s (dcS s))) (hQ2 : kOk Q sl c X Y (bhS c i o L s (dcS s))) : aw ET G (d + 3) 280 0 [some (.ref 199)] [] 231 sl (mem X Y) Q := by
  simp (disch := omega) [w280_0, rt280, rt280, aw_st, ai_cls, ai_len, ai_p, ai_sw, ai_m, ai_c, ai_at, ai_isI, ai_isJ, ai_isA, ai_ld, ai_1i, ai_2i, ai_2l, ai_cn, ai_j, ai_set, ai_set2, ai_nl, ai_rs, ai_sm, Value.category, hk0, hk1, lits, litb, litm, litm2, List.getElem?_cons_zero, List.getElem?_cons_succ, or_n0, bit_r, fi0, fi1, fi2, fi3, nI_toInt, nI_add, pk_mul, nI_leI, nI_ltI, nI_eq, pk_sub, ib_nI, nI_clamp, va_up_self, va_up_ne, va_up_up, va_up_comm, pk_us, pk_un, upd_up, updL_up, pk_uLs, pk_uLn, b01_1, b01_0, b01_1s, b01_0s, or_b, mm200, mu200, mm201, mu201, mm202, mu202, mm203, mu203, mm204, mu204, mm205, mu205, mm206, mu206, mm207, mu207, mm208, mu208, mm209, mu209, mm210, mu210, mm211, mu211, mm212, mu212, mm213, mu213, mm214, mu214, mm215, mu215, mm216, mu216, mm217, mu217, mm218, mu218, mm219, mu219, mm220, mu220, mm221, mu221, mm222, mu222, mm223, mu223, mm224, mu224, mm225, mu225, mm226, mu226, mm227, mu227, mm228, mu228, mm229, mu229, mm230, mu230]
  rw [x280_1, if_pos (by decide)]
  refine nots_wp (d := d + 1) s L X hs (by omega) (fun X1 z1 s1 => ?_)
  have n1 := nt_dc s L
  unfold bhS at hQ1 hQ2
  generalize ntS L s (dcS s) = N at *
  obtain ⟨L1, t1, d1⟩ := N
  have n1a : d1 = dcS t1 := n1.1
  have n1b : L1.length + t1.length = L.length + s.length := n1.2
  have s1 : SR X1 L1 t1 o true := s1
  have h1 := KZ_rdr h z1
  have ok1 : OKr c X1 := OKr_cg ok (z1.1 200 (by omega) (by omega) (by omega))
  have hw := fun (j : Nat) (hj : j < 21) (Q : List Value → Nat → Nat → ai_M → Prop) => GW (G := G) (d := d + 2) (sl := sl) (Q := Q) (X := X1) (Y := Y) hj h1 ok1 hi
  have w12 := hw 12 (by omega)
  have w11 := hw 11 (by omega)
  have opr : ∀ (v y : Nat), ((v = 21 ∧ y = 12) ∨ (v = 22 ∧ y = 11)) → cY c i = y → (∀ a, (.inr (false, cA c i, o, (jnS y L1 t1).1, y :: (jnS y L1 t1).2, d1) : (Nat × Nat) ⊕ AS) = .inr a → ∀ X' Y', KX X Y X' Y' → SRA c X' Y' a → X' 199 15 = X 199 15 → Q [.int (nI 1)] 231 sl (mem X' Y')) → aw ET G (d + 3) 280 24 [some (.ref 199)] [] 231 sl (mem X1 Y) Q := by
    intro v y hv hy hq
    have hk2 : cK c i = 2 := by
      by_cases q : cK c i = 2
      · exact q
      · have := cY_no q
        omega
    have hj := jn_dc (a := y) t1 L1
    have g42 : aw ET G (d + 3) 280 42 [some (.ref 199)] [.int (nI v), .ref 199] 231 sl (mem X1 Y) Q := by
      rw [x280_42, if_pos (by decide)]
      refine joins_wp (d := d + 1) (v := v) (a := y) hv t1 L1 X1 s1 (by omega) (fun X2 z2 s2 => ?_)
      have h2 := KZ_rdr h1 z2
      have ok2 : OKr c X2 := OKr_cg ok1 (z2.1 200 (by omega) (by omega) (by omega))
      have w12' := fun (Q : List Value → Nat → Nat → ai_M → Prop) => GW (G := G) (d := d + 2) (sl := sl) (Q := Q) (X := X2) (Y := Y) (j := 12) (by omega) h2 ok2 hi
      generalize jnS y L1 t1 = J at *
      obtain ⟨L2, t2⟩ := J
      have s2 : SR X2 L2 t2 o true := s2
      have hj1 : dcS t2 = dcS t1 := hj.1
      have hj2 : L2.length + t2.length = L1.length + t1.length := hj.2
      have go : ∀ Z, Z = va_up (va_up X2 199 (upd (upd (X2 199) 58 (nI (t2.length + 1))) 60 (nI 0))) 225 (upd (X2 225) t2.length (nI v)) → aw ET G (d + 3) 280 87 [some (.ref 199)] [.ref 199] 231 sl (mem Z Y) Q := by
        intro Z hZ
        have zz : KZ X2 Z := ⟨fun k a _ b => by rw [hZ, va_up_ne _ _ b, va_up_ne _ _ a], fun j a => by rw [hZ, va_up_ne _ _ (by omega), va_up_self, pk_un (by omega), pk_un (by omega)]⟩
        have hv2 : nI v = nI (rkc y) := by rcases hv with ⟨rfl, rfl⟩ | ⟨rfl, rfl⟩ <;> rfl
        have e0 : b01 (false = true) = nI 0 := by decide
        have sZ : SR Z L2 (y :: t2) o false := SR_push s2 (by omega) (by rw [hZ, va_up_ne _ _ (by omega), va_up_self, pk_un (by omega), pk_un (by omega)]) (by rw [hZ, va_up_ne _ _ (by omega), va_up_self, pk_un (by omega), pk_un (by omega)]; exact s2.2.1) (by rw [hZ, va_up_ne _ _ (by omega), va_up_self, pk_un (by omega), pk_us]) (by
          rw [hZ, va_up_ne _ _ (by omega), va_up_self, pk_un (by omega), pk_un (by omega), s2.2.2.2.1]
          show _ = nI (dcS t2 + (if y = 13 ∨ y = 40 then 1 else 0))
          rw [if_neg (by omega)]
          rfl) (by rw [hZ, va_up_ne _ _ (by omega), va_up_self, pk_us, e0]) (by rw [hZ, va_up_ne _ _ (by omega), va_up_ne _ _ (by omega)]) (by rw [hZ, va_up_self, hv2])
        rw [x280_87, if_pos (by decide)]
        refine Ggo (d := d + 1) (KZ_rdr h2 zz) (by omega) (OKr_cg ok2 (zz.1 200 (by omega) (by omega) (by omega))) hi (fun X3 Y3 f3 r3 g15 _ => ?_)
        simp (disch := omega) [w280_90, w280_91, rt280, rt280, aw_st, ai_cls, ai_len, ai_p, ai_sw, ai_m, ai_c, ai_at, ai_isI, ai_isJ, ai_isA, ai_ld, ai_1i, ai_2i, ai_2l, ai_cn, ai_j, ai_set, ai_set2, ai_nl, ai_rs, ai_sm, Value.category, hk0, hk1, lits, litb, litm, litm2, List.getElem?_cons_zero, List.getElem?_cons_succ, or_n0, bit_r, fi0, fi1, fi2, fi3, nI_toInt, nI_add, pk_mul, nI_leI, nI_ltI, nI_eq, pk_sub, ib_nI, nI_clamp, va_up_self, va_up_ne, va_up_up, va_up_comm, pk_us, pk_un, upd_up, updL_up, pk_uLs, pk_uLn, b01_1, b01_0, b01_1s, b01_0s, or_b, mm200, mu200, mm201, mu201, mm202, mu202, mm203, mu203, mm204, mu204, mm205, mu205, mm206, mu206, mm207, mu207, mm208, mu208, mm209, mu209, mm210, mu210, mm211, mu211, mm212, mu212, mm213, mu213, mm214, mu214, mm215, mu215, mm216, mu216, mm217, mu217, mm218, mu218, mm219, mu219, mm220, mu220, mm221, mu221, mm222, mu222, mm223, mu223, mm224, mu224, mm225, mu225, mm226, mu226, mm227, mu227, mm228, mu228, mm229, mu229, mm230, mu230]
        refine hq _ rfl X3 Y3 (((z1.tr z2).tr zz).kx.tr f3.kx) ⟨SR_h sZ f3, r3, cA_le hi, by show d1 = dcS t2 + (if y = 13 ∨ y = 40 then 1 else 0); rw [if_neg (by omega), n1a, hj1]; rfl⟩ ?_
        rw [g15, zz.2 15 (by omega), z2.2 15 (by omega), z1.2 15 (by omega)]
      have e58 : X2 199 58 = nI t2.length := s2.2.2.1
      rcases hv with ⟨rfl, rfl⟩ | ⟨rfl, rfl⟩
      · simp (disch := omega) [w280_45, x280_46, w280_49, x280_50, w280_53, w280_54, x280_57, w280_60, w280_63, w280_65, w280_68, w280_70, w280_71, w280_72, x280_73, w280_76, w280_77, x280_78, w280_81, w280_82, x280_83 (v := nI 0) (Or.inl rfl), x280_83 (v := nI 1) (Or.inr rfl), w280_86, rt280, ow280, pl12_156, rt280, aw_st, ai_cls, ai_len, ai_p, ai_sw, ai_m, ai_c, ai_at, ai_isI, ai_isJ, ai_isA, ai_ld, ai_1i, ai_2i, ai_2l, ai_cn, ai_j, ai_set, ai_set2, ai_nl, ai_rs, ai_sm, Value.category, hk0, hk1, lits, litb, litm, litm2, List.getElem?_cons_zero, List.getElem?_cons_succ, or_n0, bit_r, fi0, fi1, fi2, fi3, nI_toInt, nI_add, pk_mul, nI_leI, nI_ltI, nI_eq, pk_sub, ib_nI, nI_clamp, va_up_self, va_up_ne, va_up_up, va_up_comm, pk_us, pk_un, upd_up, updL_up, pk_uLs, pk_uLn, b01_1, b01_0, b01_1s, b01_0s, or_b, mm200, mu200, mm201, mu201, mm202, mu202, mm203, mu203, mm204, mu204, mm205, mu205, mm206, mu206, mm207, mu207, mm208, mu208, mm209, mu209, mm210, mu210, mm211, mu211, mm212, mu212, mm213, mu213, mm214, mu214, mm215, mu215, mm216, mu216, mm217, mu217, mm218, mu218, mm219, mu219, mm220, mu220, mm221, mu221, mm222, mu222, mm223, mu223, mm224, mu224, mm225, mu225, mm226, mu226, mm227, mu227, mm228, mu228, mm229, mu229, mm230, mu230, ofN, klv, w12', hy, e58]
        exact go _ rfl
      · simp (disch := omega) [w280_45, x280_46, w280_49, x280_50, w280_53, w280_54, x280_57, w280_60, w280_63, w280_65, w280_68, w280_70, w280_71, w280_72, x280_73, w280_76, w280_77, x280_78, w280_81, w280_82, x280_83 (v := nI 0) (Or.inl rfl), x280_83 (v := nI 1) (Or.inr rfl), w280_86, rt280, ow280, pl12_156, rt280, aw_st, ai_cls, ai_len, ai_p, ai_sw, ai_m, ai_c, ai_at, ai_isI, ai_isJ, ai_isA, ai_ld, ai_1i, ai_2i, ai_2l, ai_cn, ai_j, ai_set, ai_set2, ai_nl, ai_rs, ai_sm, Value.category, hk0, hk1, lits, litb, litm, litm2, List.getElem?_cons_zero, List.getElem?_cons_succ, or_n0, bit_r, fi0, fi1, fi2, fi3, nI_toInt, nI_add, pk_mul, nI_leI, nI_ltI, nI_eq, pk_sub, ib_nI, nI_clamp, va_up_self, va_up_ne, va_up_up, va_up_comm, pk_us, pk_un, upd_up, updL_up, pk_uLs, pk_uLn, b01_1, b01_0, b01_1s, b01_0s, or_b, mm200, mu200, mm201, mu201, mm202, mu202, mm203, mu203, mm204, mu204, mm205, mu205, mm206, mu206, mm207, mu207, mm208, mu208, mm209, mu209, mm210, mu210, mm211, mu211, mm212, mu212, mm213, mu213, mm214, mu214, mm215, mu215, mm216, mu216, mm217, mu217, mm218, mu218, mm219, mu219, mm220, mu220, mm221, mu221, mm222, mu222, mm223, mu223, mm224, mu224, mm225, mu225, mm226, mu226, mm227, mu227, mm228, mu228, mm229, mu229, mm230, mu230, ofN, klv, w12', hy, e58]
        exact go _ rfl
    rcases hv with ⟨rfl, rfl⟩ | ⟨rfl, rfl⟩
    · simp (disch := omega) [w280_24, w280_25, w280_26, x280_29, w280_32, w280_35, w280_37, w280_40, rt280, ow280, pl12_156, rt280, aw_st, ai_cls, ai_len, ai_p, ai_sw, ai_m, ai_c, ai_at, ai_isI, ai_isJ, ai_isA, ai_ld, ai_1i, ai_2i, ai_2l, ai_cn, ai_j, ai_set, ai_set2, ai_nl, ai_rs, ai_sm, Value.category, hk0, hk1, lits, litb, litm, litm2, List.getElem?_cons_zero, List.getElem?_cons_succ, or_n0, bit_r, fi0, fi1, fi2, fi3, nI_toInt, nI_add, pk_mul, nI_leI, nI_ltI, nI_eq, pk_sub, ib_nI, nI_clamp, va_up_self, va_up_ne, va_up_up, va_up_comm, pk_us, pk_un, upd_up, updL_up, pk_uLs, pk_uLn, b01_1, b01_0, b01_1s, b01_0s, or_b, mm200, mu200, mm201, mu201, mm202, mu202, mm203, mu203, mm204, mu204, mm205, mu205, mm206, mu206, mm207, mu207, mm208, mu208, mm209, mu209, mm210, mu210, mm211, mu211, mm212, mu212, mm213, mu213, mm214, mu214, mm215, mu215, mm216, mu216, mm217, mu217, mm218, mu218, mm219, mu219, mm220, mu220, mm221, mu221, mm222, mu222, mm223, mu223, mm224, mu224, mm225, mu225, mm226, mu226, mm227, mu227, mm228, mu228, mm229, mu229, mm230, mu230, ofN, klv, w12, hy]
      exact g42
    · simp (disch := omega) [w280_24, w280_25, w280_26, x280_29, w280_32, w280_35, w280_37, w280_40, rt280, ow280, pl12_156, rt280, aw_st, ai_cls, ai_len, ai_p, ai_sw, ai_m, ai_c, ai_at, ai_isI, ai_isJ, ai_isA, ai_ld, ai_1i, ai_2i, ai_2l, ai_cn, ai_j, ai_set, ai_set2, ai_nl, ai_rs, ai_sm, Value.category, hk0, hk1, lits, litb, litm, litm2, List.getElem?_cons_zero, List.getElem?_cons_succ, or_n0, bit_r, fi0, fi1, fi2, fi3, nI_toInt, nI_add, pk_mul, nI_leI, nI_ltI, nI_eq, pk_sub, ib_nI, nI_clamp, va_up_self, va_up_ne, va_up_up, va_up_comm, pk_us, pk_un, upd_up, updL_up, pk_uLs, pk_uLn, b01_1, b01_0, b01_1s, b01_0s, or_b, mm200, mu200, mm201, mu201, mm202, mu202, mm203, mu203, mm204, mu204, mm205, mu205, mm206, mu206, mm207, mu207, mm208, mu208, mm209, mu209, mm210, mu210, mm211, mu211, mm212, mu212, mm213, mu213, mm214, mu214, mm215, mu215, mm216, mu216, mm217, mu217, mm218, mu218, mm219, mu219, mm220, mu220, mm221, mu221, mm222, mu222, mm223, mu223, mm224, mu224, mm225, mu225, mm226, mu226, mm227, mu227, mm228, mu228, mm229, mu229, mm230, mu230, ofN, klv, w12, hy]
      exact g42
  by_cases y12 : cY c i = 12
  · rw [if_pos y12] at hQ2
    have := opr 21 12 (Or.inl ⟨rfl, rfl⟩) y12 hQ2
    simp (disch := omega) [w280_4, w280_5, x280_8, w280_11, rt280, ow280, pl12_156, rt280, aw_st, ai_cls, ai_len, ai_p, ai_sw, ai_m, ai_c, ai_at, ai_isI, ai_isJ, ai_isA, ai_ld, ai_1i, ai_2i, ai_2l, ai_cn, ai_j, ai_set, ai_set2, ai_nl, ai_rs, ai_sm, Value.category, hk0, hk1, lits, litb, litm, litm2, List.getElem?_cons_zero, List.getElem?_cons_succ, or_n0, bit_r, fi0, fi1, fi2, fi3, nI_toInt, nI_add, pk_mul, nI_leI, nI_ltI, nI_eq, pk_sub, ib_nI, nI_clamp, va_up_self, va_up_ne, va_up_up, va_up_comm, pk_us, pk_un, upd_up, updL_up, pk_uLs, pk_uLn, b01_1, b01_0, b01_1s, b01_0s, or_b, mm200, mu200, mm201, mu201, mm202, mu202, mm203, mu203, mm204, mu204, mm205, mu205, mm206, mu206, mm207, mu207, mm208, mu208, mm209, mu209, mm210, mu210, mm211, mu211, mm212, mu212, mm213, mu213, mm214, mu214, mm215, mu215, mm216, mu216, mm217, mu217, mm218, mu218, mm219, mu219, mm220, mu220, mm221, mu221, mm222, mu222, mm223, mu223, mm224, mu224, mm225, mu225, mm226, mu226, mm227, mu227, mm228, mu228, mm229, mu229, mm230, mu230, ofN, klv, w12, y12]
    exact this
  · by_cases y11 : cY c i = 11
    · rw [if_neg y12, if_pos y11] at hQ2
      have := opr 22 11 (Or.inr ⟨rfl, rfl⟩) y11 hQ2
      simp (disch := omega) [w280_4, w280_5, x280_8, w280_11, w280_14, w280_15, x280_18, w280_21, rt280, ow280, pl12_156, pl12_154, rt280, aw_st, ai_cls, ai_len, ai_p, ai_sw, ai_m, ai_c, ai_at, ai_isI, ai_isJ, ai_isA, ai_ld, ai_1i, ai_2i, ai_2l, ai_cn, ai_j, ai_set, ai_set2, ai_nl, ai_rs, ai_sm, Value.category, hk0, hk1, lits, litb, litm, litm2, List.getElem?_cons_zero, List.getElem?_cons_succ, or_n0, bit_r, fi0, fi1, fi2, fi3, nI_toInt, nI_add, pk_mul, nI_leI, nI_ltI, nI_eq, pk_sub, ib_nI, nI_clamp, va_up_self, va_up_ne, va_up_up, va_up_comm, pk_us, pk_un, upd_up, updL_up, pk_uLs, pk_uLn, b01_1, b01_0, b01_1s, b01_0s, or_b, mm200, mu200, mm201, mu201, mm202, mu202, mm203, mu203, mm204, mu204, mm205, mu205, mm206, mu206, mm207, mu207, mm208, mu208, mm209, mu209, mm210, mu210, mm211, mu211, mm212, mu212, mm213, mu213, mm214, mu214, mm215, mu215, mm216, mu216, mm217, mu217, mm218, mu218, mm219, mu219, mm220, mu220, mm221, mu221, mm222, mu222, mm223, mu223, mm224, mu224, mm225, mu225, mm226, mu226, mm227, mu227, mm228, mu228, mm229, mu229, mm230, mu230, ofN, klv, w12, w11, y11]
      exact this
    · rw [if_neg y12, if_neg y11] at hQ1 hQ2
      simp (disch := omega) [w280_4, w280_5, x280_8, w280_11, w280_14, w280_15, x280_18, w280_21, w280_92, w280_93, rt280, ow280, pl12_156, pl12_154, rt280, aw_st, ai_cls, ai_len, ai_p, ai_sw, ai_m, ai_c, ai_at, ai_isI, ai_isJ, ai_isA, ai_ld, ai_1i, ai_2i, ai_2l, ai_cn, ai_j, ai_set, ai_set2, ai_nl, ai_rs, ai_sm, Value.category, hk0, hk1, lits, litb, litm, litm2, List.getElem?_cons_zero, List.getElem?_cons_succ, or_n0, bit_r, fi0, fi1, fi2, fi3, nI_toInt, nI_add, pk_mul, nI_leI, nI_ltI, nI_eq, pk_sub, ib_nI, nI_clamp, va_up_self, va_up_ne, va_up_up, va_up_comm, pk_us, pk_un, upd_up, updL_up, pk_uLs, pk_uLn, b01_1, b01_0, b01_1s, b01_0s, or_b, mm200, mu200, mm201, mu201, mm202, mu202, mm203, mu203, mm204, mu204, mm205, mu205, mm206, mu206, mm207, mu207, mm208, mu208, mm209, mu209, mm210, mu210, mm211, mu211, mm212, mu212, mm213, mu213, mm214, mu214, mm215, mu215, mm216, mu216, mm217, mu217, mm218, mu218, mm219, mu219, mm220, mu220, mm221, mu221, mm222, mu222, mm223, mu223, mm224, mu224, mm225, mu225, mm226, mu226, mm227, mu227, mm228, mu228, mm229, mu229, mm230, mu230, ofN, klv, w12, w11, y12, y11]
      rw [x280_95, if_pos (by decide)]
      have hj := jn_dc (a := 11) t1 L1
      have hh := fun b r => jn_head (b := b) (r := r) t1 L1
      refine joins_wp (d := d + 1) (v := 22) (a := 11) (Or.inr ⟨rfl, rfl⟩) t1 L1 X1 s1 (by omega) (fun X2 z2 s2 => ?_)
      have h2 := KZ_rdr h1 z2
      have ok2 : OKr c X2 := OKr_cg ok1 (z2.1 200 (by omega) (by omega) (by omega))
      have ws := fun (Q : List Value → Nat → Nat → ai_M → Prop) => GS (G := G) (d := d + 2) (sl := sl) (Q := Q) (X := X2) (Y := Y) (v := 41) (by omega) (by omega) h2 ok2 hi
      have bad : (.inl (1, i) : (Nat × Nat) ⊕ AS) = .inl (1, i) → (∀ X' Y', KX X Y X' Y' → X' 199 15 = nI 1 → X' 199 16 = nI (cP c i) → Q [.int (nI 0)] 231 sl (mem X' Y')) → aw ET G (d + 3) 280 116 [some (.ref 199)] [.int (nI 1), .ref 199] 231 sl (mem X2 Y) Q := by
        intro _ hq
        rw [x280_116, if_pos (by decide)]
        refine Gbad h2 (fun X3 Y3 f3 b15 b16 => ?_)
        simp (disch := omega) [w280_119, rt280, rt280, aw_st, ai_cls, ai_len, ai_p, ai_sw, ai_m, ai_c, ai_at, ai_isI, ai_isJ, ai_isA, ai_ld, ai_1i, ai_2i, ai_2l, ai_cn, ai_j, ai_set, ai_set2, ai_nl, ai_rs, ai_sm, Value.category, hk0, hk1, lits, litb, litm, litm2, List.getElem?_cons_zero, List.getElem?_cons_succ, or_n0, bit_r, fi0, fi1, fi2, fi3, nI_toInt, nI_add, pk_mul, nI_leI, nI_ltI, nI_eq, pk_sub, ib_nI, nI_clamp, va_up_self, va_up_ne, va_up_up, va_up_comm, pk_us, pk_un, upd_up, updL_up, pk_uLs, pk_uLn, b01_1, b01_0, b01_1s, b01_0s, or_b, mm200, mu200, mm201, mu201, mm202, mu202, mm203, mu203, mm204, mu204, mm205, mu205, mm206, mu206, mm207, mu207, mm208, mu208, mm209, mu209, mm210, mu210, mm211, mu211, mm212, mu212, mm213, mu213, mm214, mu214, mm215, mu215, mm216, mu216, mm217, mu217, mm218, mu218, mm219, mu219, mm220, mu220, mm221, mu221, mm222, mu222, mm223, mu223, mm224, mu224, mm225, mu225, mm226, mu226, mm227, mu227, mm228, mu228, mm229, mu229, mm230, mu230]
        exact hq X3 Y3 ((z1.tr z2).kx.tr f3.kx) b15 b16
      generalize jnS 11 L1 t1 = J at *
      obtain ⟨L2, t2⟩ := J
      have s2 : SR X2 L2 t2 o true := s2
      have hj1 : dcS t2 = dcS t1 := hj.1
      have hj2 : L2.length + t2.length = L1.length + t1.length := hj.2
      have e58 : X2 199 58 = nI t2.length := s2.2.2.1
      cases t2 with
      | nil =>
        have e58 : X2 199 58 = nI 0 := e58
        have b := bad rfl (fun X' Y' f a b => hQ1 1 i (by show (if cK c i = 0 then _ else _) = _; rw [if_neg h0]) X' Y' f a b)
        by_cases k41 : cK c i = 41
        · simp (disch := omega) [w280_98, w280_99, x280_101, w280_104, w280_107, x280_108, w280_111, w280_114, w280_115, rt280, rt280, aw_st, ai_cls, ai_len, ai_p, ai_sw, ai_m, ai_c, ai_at, ai_isI, ai_isJ, ai_isA, ai_ld, ai_1i, ai_2i, ai_2l, ai_cn, ai_j, ai_set, ai_set2, ai_nl, ai_rs, ai_sm, Value.category, hk0, hk1, lits, litb, litm, litm2, List.getElem?_cons_zero, List.getElem?_cons_succ, or_n0, bit_r, fi0, fi1, fi2, fi3, nI_toInt, nI_add, pk_mul, nI_leI, nI_ltI, nI_eq, pk_sub, ib_nI, nI_clamp, va_up_self, va_up_ne, va_up_up, va_up_comm, pk_us, pk_un, upd_up, updL_up, pk_uLs, pk_uLn, b01_1, b01_0, b01_1s, b01_0s, or_b, mm200, mu200, mm201, mu201, mm202, mu202, mm203, mu203, mm204, mu204, mm205, mu205, mm206, mu206, mm207, mu207, mm208, mu208, mm209, mu209, mm210, mu210, mm211, mu211, mm212, mu212, mm213, mu213, mm214, mu214, mm215, mu215, mm216, mu216, mm217, mu217, mm218, mu218, mm219, mu219, mm220, mu220, mm221, mu221, mm222, mu222, mm223, mu223, mm224, mu224, mm225, mu225, mm226, mu226, mm227, mu227, mm228, mu228, mm229, mu229, mm230, mu230, ws, k41, e58]
          exact b
        · simp (disch := omega) [w280_98, w280_99, x280_101, w280_104, w280_107, x280_108, w280_111, w280_114, w280_115, rt280, rt280, aw_st, ai_cls, ai_len, ai_p, ai_sw, ai_m, ai_c, ai_at, ai_isI, ai_isJ, ai_isA, ai_ld, ai_1i, ai_2i, ai_2l, ai_cn, ai_j, ai_set, ai_set2, ai_nl, ai_rs, ai_sm, Value.category, hk0, hk1, lits, litb, litm, litm2, List.getElem?_cons_zero, List.getElem?_cons_succ, or_n0, bit_r, fi0, fi1, fi2, fi3, nI_toInt, nI_add, pk_mul, nI_leI, nI_ltI, nI_eq, pk_sub, ib_nI, nI_clamp, va_up_self, va_up_ne, va_up_up, va_up_comm, pk_us, pk_un, upd_up, updL_up, pk_uLs, pk_uLn, b01_1, b01_0, b01_1s, b01_0s, or_b, mm200, mu200, mm201, mu201, mm202, mu202, mm203, mu203, mm204, mu204, mm205, mu205, mm206, mu206, mm207, mu207, mm208, mu208, mm209, mu209, mm210, mu210, mm211, mu211, mm212, mu212, mm213, mu213, mm214, mu214, mm215, mu215, mm216, mu216, mm217, mu217, mm218, mu218, mm219, mu219, mm220, mu220, mm221, mu221, mm222, mu222, mm223, mu223, mm224, mu224, mm225, mu225, mm226, mu226, mm227, mu227, mm228, mu228, mm229, mu229, mm230, mu230, ws, k41, e58]
          exact b
      | cons b r =>
        have e58 : X2 199 58 = nI (r.length + 1) := e58
        have hj2 : L2.length + (r.length + 1) = L1.length + t1.length := hj2
        by_cases k41 : cK c i = 41
        · have hb := hh b r rfl
          have hb4 : b = 13 ∨ b = 40 := by
            have := s2.2.2.2.2.2.2.2 b (List.mem_cons_self)
            omega
          have e59 : X2 199 59 = nI (dcS r + 1) := by
            rw [s2.2.2.2.1]
            show nI (dcS r + (if b = 13 ∨ b = 40 then 1 else 0)) = _
            rw [if_pos hb4]
          have hq := hQ2 _ (by show (if cK c i = 41 then _ else _) = _; rw [if_pos k41])
          have sp := SR_po (dp := true) s2 (decide_eq_true hb4).symm
          have go : ∀ Z, Z = poX X2 r true → aw ET G (d + 3) 280 141 [some (.ref 199)] [.ref 199] 231 sl (mem Z Y) Q := by
            intro Z hZ
            subst hZ
            rw [x280_141, if_pos (by decide)]
            refine Ggo (d := d + 1) (KZ_rdr h2 KZ_po) (by omega) (OKr_cg ok2 (KZ_po.1 200 (by omega) (by omega) (by omega))) hi (fun X3 Y3 f3 r3 g15 _ => ?_)
            simp (disch := omega) [w280_144, w280_145, rt280, rt280, aw_st, ai_cls, ai_len, ai_p, ai_sw, ai_m, ai_c, ai_at, ai_isI, ai_isJ, ai_isA, ai_ld, ai_1i, ai_2i, ai_2l, ai_cn, ai_j, ai_set, ai_set2, ai_nl, ai_rs, ai_sm, Value.category, hk0, hk1, lits, litb, litm, litm2, List.getElem?_cons_zero, List.getElem?_cons_succ, or_n0, bit_r, fi0, fi1, fi2, fi3, nI_toInt, nI_add, pk_mul, nI_leI, nI_ltI, nI_eq, pk_sub, ib_nI, nI_clamp, va_up_self, va_up_ne, va_up_up, va_up_comm, pk_us, pk_un, upd_up, updL_up, pk_uLs, pk_uLn, b01_1, b01_0, b01_1s, b01_0s, or_b, mm200, mu200, mm201, mu201, mm202, mu202, mm203, mu203, mm204, mu204, mm205, mu205, mm206, mu206, mm207, mu207, mm208, mu208, mm209, mu209, mm210, mu210, mm211, mu211, mm212, mu212, mm213, mu213, mm214, mu214, mm215, mu215, mm216, mu216, mm217, mu217, mm218, mu218, mm219, mu219, mm220, mu220, mm221, mu221, mm222, mu222, mm223, mu223, mm224, mu224, mm225, mu225, mm226, mu226, mm227, mu227, mm228, mu228, mm229, mu229, mm230, mu230]
            refine hq X3 Y3 (((z1.tr z2).tr KZ_po).kx.tr f3.kx) ⟨SR_h sp f3, r3, cA_le hi, ?_⟩ ?_
            · show d1 - 1 = dcS r
              rw [n1a, ← hj1]
              show dcS r + (if b = 13 ∨ b = 40 then 1 else 0) - 1 = _
              rw [if_pos hb4]
              omega
            · rw [g15, KZ_po.2 15 (by omega), z2.2 15 (by omega), z1.2 15 (by omega)]
          simp (disch := omega) [w280_98, w280_99, x280_101, w280_104, w280_107, x280_108, w280_111, w280_120, w280_121, x280_122, w280_125, w280_126, x280_127, w280_130, w280_131, x280_132, w280_135, w280_136, x280_137, w280_140, rt280, rt280, aw_st, ai_cls, ai_len, ai_p, ai_sw, ai_m, ai_c, ai_at, ai_isI, ai_isJ, ai_isA, ai_ld, ai_1i, ai_2i, ai_2l, ai_cn, ai_j, ai_set, ai_set2, ai_nl, ai_rs, ai_sm, Value.category, hk0, hk1, lits, litb, litm, litm2, List.getElem?_cons_zero, List.getElem?_cons_succ, or_n0, bit_r, fi0, fi1, fi2, fi3, nI_toInt, nI_add, pk_mul, nI_leI, nI_ltI, nI_eq, pk_sub, ib_nI, nI_clamp, va_up_self, va_up_ne, va_up_up, va_up_comm, pk_us, pk_un, upd_up, updL_up, pk_uLs, pk_uLn, b01_1, b01_0, b01_1s, b01_0s, or_b, mm200, mu200, mm201, mu201, mm202, mu202, mm203, mu203, mm204, mu204, mm205, mu205, mm206, mu206, mm207, mu207, mm208, mu208, mm209, mu209, mm210, mu210, mm211, mu211, mm212, mu212, mm213, mu213, mm214, mu214, mm215, mu215, mm216, mu216, mm217, mu217, mm218, mu218, mm219, mu219, mm220, mu220, mm221, mu221, mm222, mu222, mm223, mu223, mm224, mu224, mm225, mu225, mm226, mu226, mm227, mu227, mm228, mu228, mm229, mu229, mm230, mu230, ws, k41, e58, e59]
          exact go _ rfl
        · have b := bad rfl (fun X' Y' f a b => hQ1 1 i (by show (if cK c i = 41 then _ else _) = _; rw [if_neg k41]) X' Y' f a b)
          simp (disch := omega) [w280_98, w280_99, x280_101, w280_104, w280_107, x280_108, w280_111, w280_114, w280_115, rt280, rt280, aw_st, ai_cls, ai_len, ai_p, ai_sw, ai_m, ai_c, ai_at, ai_isI, ai_isJ, ai_isA, ai_ld, ai_1i, ai_2i, ai_2l, ai_cn, ai_j, ai_set, ai_set2, ai_nl, ai_rs, ai_sm, Value.category, hk0, hk1, lits, litb, litm, litm2, List.getElem?_cons_zero, List.getElem?_cons_succ, or_n0, bit_r, fi0, fi1, fi2, fi3, nI_toInt, nI_add, pk_mul, nI_leI, nI_ltI, nI_eq, pk_sub, ib_nI, nI_clamp, va_up_self, va_up_ne, va_up_up, va_up_comm, pk_us, pk_un, upd_up, updL_up, pk_uLs, pk_uLn, b01_1, b01_0, b01_1s, b01_0s, or_b, mm200, mu200, mm201, mu201, mm202, mu202, mm203, mu203, mm204, mu204, mm205, mu205, mm206, mu206, mm207, mu207, mm208, mu208, mm209, mu209, mm210, mu210, mm211, mu211, mm212, mu212, mm213, mu213, mm214, mu214, mm215, mu215, mm216, mu216, mm217, mu217, mm218, mu218, mm219, mu219, mm220, mu220, mm221, mu221, mm222, mu222, mm223, mu223, mm224, mu224, mm225, mu225, mm226, mu226, mm227, mu227, mm228, mu228, mm229, mu229, mm230, mu230, ws, k41, e58]
          exact b
end RSB
