/-! PLACES: clear, copied -/
section PLC
variable {G : ai_G} {d sl : Nat} {Q : List Value → Nat → Nat → ai_M → Prop} {Y : mY} {X : mX} {P S : Nat}
/-- a Charter that is a copy -/
def ccX (X : mX) (a b : Nat) : mX := fun k => if k = a then (fun j => if 7 ≤ j ∧ j ≤ 12 then X b j else X a j) else if k = a + 2 ∨ k = a + 3 ∨ k = a + 5 ∨ k = a + 6 ∨ k = a + 7 then va_cpy (X (b + (k - a))) (X k) 0 0 8 else X k
def ccY (Y : mY) (a b : Nat) : mY := fun k => if k = a + 1 ∨ k = a + 4 then va_cpy (Y (b + (k - a))) (Y k) 0 0 8 else Y k
/-- a Sentence that is a copy -/
def scX (X : mX) (a b : Nat) : mX := fun k => if k = a then (fun j => if j = 4 ∨ j = 5 then X b j else X a j) else if k = a + 1 ∨ k = a + 2 ∨ k = a + 3 then va_cpy (X (b + (k - a))) (X k) 0 0 40 else X k
theorem c40_ : (nI 40).toNatClampNeg = 40 := rfl
theorem ccX_47_6 {f : Nat → Int32} (hf : f = fun j => if 7 ≤ j ∧ j ≤ 12 then X 6 j else X 47 j) : va_up (va_up (va_up (va_up (va_up (va_up X 47 f) 49 (va_cpy (X 8) (X 49) 0 0 8)) 50 (va_cpy (X 9) (X 50) 0 0 8)) 52 (va_cpy (X 11) (X 52) 0 0 8)) 53 (va_cpy (X 12) (X 53) 0 0 8)) 54 (va_cpy (X 13) (X 54) 0 0 8) = ccX X 47 6 := by
  funext k
  unfold ccX
  subst hf
  by_cases c : k < 47 ∨ 54 < k
  · simp only [va_up, show ¬ k = 47 by omega, show ¬ k = 49 by omega, show ¬ k = 50 by omega, show ¬ k = 52 by omega, show ¬ k = 53 by omega, show ¬ k = 54 by omega, show ¬ (k = 47 + 2 ∨ k = 47 + 3 ∨ k = 47 + 5 ∨ k = 47 + 6 ∨ k = 47 + 7) by omega, or_self, if_false]
  · rcases (show k = 47 ∨ k = 48 ∨ k = 49 ∨ k = 50 ∨ k = 51 ∨ k = 52 ∨ k = 53 ∨ k = 54 by omega) with rfl | rfl | rfl | rfl | rfl | rfl | rfl | rfl <;> simp [va_up]
theorem ccY_47_6 : va_up (va_up Y 48 (va_cpy (Y 7) (Y 48) 0 0 8)) 51 (va_cpy (Y 10) (Y 51) 0 0 8) = ccY Y 47 6 := by
  funext k
  unfold ccY
  by_cases c : k = 51
  · subst c; simp [va_up]
  · by_cases e : k = 48
    · subst e; simp [va_up]
    · simp only [va_up, c, e, if_false, show ¬ (k = 47 + 1 ∨ k = 47 + 4) by omega, or_self]
set_option maxHeartbeats 8000000 in
set_option maxRecDepth 40000 in
theorem ccopy_47_6 (hG : G.1 = false) : aw ET G (d + 1) 52 0 [some (.ref 47), some (.ref 6)] [] 231 sl (mem X Y) Q = Q [] 231 sl (mem (ccX X 47 6) (ccY Y 47 6)) := by
  rw [← ccX_47_6 (f := upd (upd (upd (upd (upd (upd (X 47) 7 (X 6 7)) 8 (X 6 8)) 9 (X 6 9)) 10 (X 6 10)) 11 (X 6 11)) 12 (X 6 12)) (by
    funext j
    by_cases c : 7 ≤ j ∧ j ≤ 12
    · rcases (show j = 7 ∨ j = 8 ∨ j = 9 ∨ j = 10 ∨ j = 11 ∨ j = 12 by omega) with rfl | rfl | rfl | rfl | rfl | rfl <;> simp [upd]
    · simp only [c, if_false, upd, show ¬ j = 7 by omega, show ¬ j = 8 by omega, show ¬ j = 9 by omega, show ¬ j = 10 by omega, show ¬ j = 11 by omega, show ¬ j = 12 by omega]), ← ccY_47_6]
  simp (disch := omega) [w52_0, x52_1_6, x52_1_47, w52_4, w52_5, x52_6_6, x52_6_47, w52_9, w52_10, w52_12, w52_15, x52_16_6, x52_16_47, w52_19, w52_20, x52_21_6, x52_21_47, w52_24, w52_25, w52_27, w52_30, x52_31_6, x52_31_47, w52_34, w52_35, x52_36_6, x52_36_47, w52_39, w52_40, w52_42, w52_45, x52_46_6, x52_46_47, w52_49, w52_50, x52_51_6, x52_51_47, w52_54, w52_55, w52_57, w52_60, x52_61_6, x52_61_47, w52_64, w52_65, x52_66_6, x52_66_47, w52_69, w52_70, w52_72, w52_75, x52_76_6, x52_76_47, w52_79, w52_80, x52_81_6, x52_81_47, w52_84, w52_85, w52_87, w52_90, x52_91_6, x52_91_47, w52_94, w52_95, x52_96_6, x52_96_47, w52_99, w52_100, w52_102, w52_105, w52_106, x52_107_6, x52_107_47, x52_110_6, x52_110_47, w52_113, w52_114, x52_115_6, x52_115_47, x52_118_6, x52_118_47, w52_121, w52_122, x52_123_6, x52_123_47, x52_126_6, x52_126_47, w52_129, w52_130, x52_131_6, x52_131_47, x52_134_6, x52_134_47, w52_137, w52_138, x52_139_6, x52_139_47, x52_142_6, x52_142_47, w52_145, w52_146, x52_147_6, x52_147_47, x52_150_6, x52_150_47, w52_153, rt52, ow52, pl1_53, aw_st, ai_cls, ai_len, ai_p, ai_sw, ai_m, ai_c, ai_at, ai_isI, ai_isJ, ai_isA, ai_ld, ai_1i, ai_2i, ai_2l, ai_cn, ai_j, ai_set, ai_set2, ai_nl, ai_rs, ai_sm, Value.category, hk0, hk1, lits, litb, litm, litm2, List.getElem?_cons_zero, List.getElem?_cons_succ, or_n0, bit_r, fi0, fi1, fi2, fi3, nI_toInt, nI_add, pk_mul, nI_leI, nI_ltI, nI_eq, pk_sub, ib_nI, nI_clamp, va_up_self, va_up_ne, va_up_up, va_up_comm, pk_us, pk_un, upd_up, updL_up, pk_uLs, pk_uLn, b01_1, b01_0, b01_1s, b01_0s, or_b, ai_cp, hG, c0_, c8_, mm48, mu48, mm49, mu49, mm50, mu50, mm51, mu51, mm52, mu52, mm53, mu53, mm54, mu54, mm7, mm8, mm9, mm10, mm11, mm12, mm13]
theorem ccX_154_47 {f : Nat → Int32} (hf : f = fun j => if 7 ≤ j ∧ j ≤ 12 then X 47 j else X 154 j) : va_up (va_up (va_up (va_up (va_up (va_up X 154 f) 156 (va_cpy (X 49) (X 156) 0 0 8)) 157 (va_cpy (X 50) (X 157) 0 0 8)) 159 (va_cpy (X 52) (X 159) 0 0 8)) 160 (va_cpy (X 53) (X 160) 0 0 8)) 161 (va_cpy (X 54) (X 161) 0 0 8) = ccX X 154 47 := by
  funext k
  unfold ccX
  subst hf
  by_cases c : k < 154 ∨ 161 < k
  · simp only [va_up, show ¬ k = 154 by omega, show ¬ k = 156 by omega, show ¬ k = 157 by omega, show ¬ k = 159 by omega, show ¬ k = 160 by omega, show ¬ k = 161 by omega, show ¬ (k = 154 + 2 ∨ k = 154 + 3 ∨ k = 154 + 5 ∨ k = 154 + 6 ∨ k = 154 + 7) by omega, or_self, if_false]
  · rcases (show k = 154 ∨ k = 155 ∨ k = 156 ∨ k = 157 ∨ k = 158 ∨ k = 159 ∨ k = 160 ∨ k = 161 by omega) with rfl | rfl | rfl | rfl | rfl | rfl | rfl | rfl <;> simp [va_up]
theorem ccY_154_47 : va_up (va_up Y 155 (va_cpy (Y 48) (Y 155) 0 0 8)) 158 (va_cpy (Y 51) (Y 158) 0 0 8) = ccY Y 154 47 := by
  funext k
  unfold ccY
  by_cases c : k = 158
  · subst c; simp [va_up]
  · by_cases e : k = 155
    · subst e; simp [va_up]
    · simp only [va_up, c, e, if_false, show ¬ (k = 154 + 1 ∨ k = 154 + 4) by omega, or_self]
set_option maxHeartbeats 8000000 in
set_option maxRecDepth 40000 in
theorem ccopy_154_47 (hG : G.1 = false) : aw ET G (d + 1) 52 0 [some (.ref 154), some (.ref 47)] [] 231 sl (mem X Y) Q = Q [] 231 sl (mem (ccX X 154 47) (ccY Y 154 47)) := by
  rw [← ccX_154_47 (f := upd (upd (upd (upd (upd (upd (X 154) 7 (X 47 7)) 8 (X 47 8)) 9 (X 47 9)) 10 (X 47 10)) 11 (X 47 11)) 12 (X 47 12)) (by
    funext j
    by_cases c : 7 ≤ j ∧ j ≤ 12
    · rcases (show j = 7 ∨ j = 8 ∨ j = 9 ∨ j = 10 ∨ j = 11 ∨ j = 12 by omega) with rfl | rfl | rfl | rfl | rfl | rfl <;> simp [upd]
    · simp only [c, if_false, upd, show ¬ j = 7 by omega, show ¬ j = 8 by omega, show ¬ j = 9 by omega, show ¬ j = 10 by omega, show ¬ j = 11 by omega, show ¬ j = 12 by omega]), ← ccY_154_47]
  simp (disch := omega) [w52_0, x52_1_47, x52_1_154, w52_4, w52_5, x52_6_47, x52_6_154, w52_9, w52_10, w52_12, w52_15, x52_16_47, x52_16_154, w52_19, w52_20, x52_21_47, x52_21_154, w52_24, w52_25, w52_27, w52_30, x52_31_47, x52_31_154, w52_34, w52_35, x52_36_47, x52_36_154, w52_39, w52_40, w52_42, w52_45, x52_46_47, x52_46_154, w52_49, w52_50, x52_51_47, x52_51_154, w52_54, w52_55, w52_57, w52_60, x52_61_47, x52_61_154, w52_64, w52_65, x52_66_47, x52_66_154, w52_69, w52_70, w52_72, w52_75, x52_76_47, x52_76_154, w52_79, w52_80, x52_81_47, x52_81_154, w52_84, w52_85, w52_87, w52_90, x52_91_47, x52_91_154, w52_94, w52_95, x52_96_47, x52_96_154, w52_99, w52_100, w52_102, w52_105, w52_106, x52_107_47, x52_107_154, x52_110_47, x52_110_154, w52_113, w52_114, x52_115_47, x52_115_154, x52_118_47, x52_118_154, w52_121, w52_122, x52_123_47, x52_123_154, x52_126_47, x52_126_154, w52_129, w52_130, x52_131_47, x52_131_154, x52_134_47, x52_134_154, w52_137, w52_138, x52_139_47, x52_139_154, x52_142_47, x52_142_154, w52_145, w52_146, x52_147_47, x52_147_154, x52_150_47, x52_150_154, w52_153, rt52, ow52, pl1_53, aw_st, ai_cls, ai_len, ai_p, ai_sw, ai_m, ai_c, ai_at, ai_isI, ai_isJ, ai_isA, ai_ld, ai_1i, ai_2i, ai_2l, ai_cn, ai_j, ai_set, ai_set2, ai_nl, ai_rs, ai_sm, Value.category, hk0, hk1, lits, litb, litm, litm2, List.getElem?_cons_zero, List.getElem?_cons_succ, or_n0, bit_r, fi0, fi1, fi2, fi3, nI_toInt, nI_add, pk_mul, nI_leI, nI_ltI, nI_eq, pk_sub, ib_nI, nI_clamp, va_up_self, va_up_ne, va_up_up, va_up_comm, pk_us, pk_un, upd_up, updL_up, pk_uLs, pk_uLn, b01_1, b01_0, b01_1s, b01_0s, or_b, ai_cp, hG, c0_, c8_, mm155, mu155, mm156, mu156, mm157, mu157, mm158, mu158, mm159, mu159, mm160, mu160, mm161, mu161, mm48, mm49, mm50, mm51, mm52, mm53, mm54]
theorem ccX_177_47 {f : Nat → Int32} (hf : f = fun j => if 7 ≤ j ∧ j ≤ 12 then X 47 j else X 177 j) : va_up (va_up (va_up (va_up (va_up (va_up X 177 f) 179 (va_cpy (X 49) (X 179) 0 0 8)) 180 (va_cpy (X 50) (X 180) 0 0 8)) 182 (va_cpy (X 52) (X 182) 0 0 8)) 183 (va_cpy (X 53) (X 183) 0 0 8)) 184 (va_cpy (X 54) (X 184) 0 0 8) = ccX X 177 47 := by
  funext k
  unfold ccX
  subst hf
  by_cases c : k < 177 ∨ 184 < k
  · simp only [va_up, show ¬ k = 177 by omega, show ¬ k = 179 by omega, show ¬ k = 180 by omega, show ¬ k = 182 by omega, show ¬ k = 183 by omega, show ¬ k = 184 by omega, show ¬ (k = 177 + 2 ∨ k = 177 + 3 ∨ k = 177 + 5 ∨ k = 177 + 6 ∨ k = 177 + 7) by omega, or_self, if_false]
  · rcases (show k = 177 ∨ k = 178 ∨ k = 179 ∨ k = 180 ∨ k = 181 ∨ k = 182 ∨ k = 183 ∨ k = 184 by omega) with rfl | rfl | rfl | rfl | rfl | rfl | rfl | rfl <;> simp [va_up]
theorem ccY_177_47 : va_up (va_up Y 178 (va_cpy (Y 48) (Y 178) 0 0 8)) 181 (va_cpy (Y 51) (Y 181) 0 0 8) = ccY Y 177 47 := by
  funext k
  unfold ccY
  by_cases c : k = 181
  · subst c; simp [va_up]
  · by_cases e : k = 178
    · subst e; simp [va_up]
    · simp only [va_up, c, e, if_false, show ¬ (k = 177 + 1 ∨ k = 177 + 4) by omega, or_self]
set_option maxHeartbeats 8000000 in
set_option maxRecDepth 40000 in
theorem ccopy_177_47 (hG : G.1 = false) : aw ET G (d + 1) 52 0 [some (.ref 177), some (.ref 47)] [] 231 sl (mem X Y) Q = Q [] 231 sl (mem (ccX X 177 47) (ccY Y 177 47)) := by
  rw [← ccX_177_47 (f := upd (upd (upd (upd (upd (upd (X 177) 7 (X 47 7)) 8 (X 47 8)) 9 (X 47 9)) 10 (X 47 10)) 11 (X 47 11)) 12 (X 47 12)) (by
    funext j
    by_cases c : 7 ≤ j ∧ j ≤ 12
    · rcases (show j = 7 ∨ j = 8 ∨ j = 9 ∨ j = 10 ∨ j = 11 ∨ j = 12 by omega) with rfl | rfl | rfl | rfl | rfl | rfl <;> simp [upd]
    · simp only [c, if_false, upd, show ¬ j = 7 by omega, show ¬ j = 8 by omega, show ¬ j = 9 by omega, show ¬ j = 10 by omega, show ¬ j = 11 by omega, show ¬ j = 12 by omega]), ← ccY_177_47]
  simp (disch := omega) [w52_0, x52_1_47, x52_1_177, w52_4, w52_5, x52_6_47, x52_6_177, w52_9, w52_10, w52_12, w52_15, x52_16_47, x52_16_177, w52_19, w52_20, x52_21_47, x52_21_177, w52_24, w52_25, w52_27, w52_30, x52_31_47, x52_31_177, w52_34, w52_35, x52_36_47, x52_36_177, w52_39, w52_40, w52_42, w52_45, x52_46_47, x52_46_177, w52_49, w52_50, x52_51_47, x52_51_177, w52_54, w52_55, w52_57, w52_60, x52_61_47, x52_61_177, w52_64, w52_65, x52_66_47, x52_66_177, w52_69, w52_70, w52_72, w52_75, x52_76_47, x52_76_177, w52_79, w52_80, x52_81_47, x52_81_177, w52_84, w52_85, w52_87, w52_90, x52_91_47, x52_91_177, w52_94, w52_95, x52_96_47, x52_96_177, w52_99, w52_100, w52_102, w52_105, w52_106, x52_107_47, x52_107_177, x52_110_47, x52_110_177, w52_113, w52_114, x52_115_47, x52_115_177, x52_118_47, x52_118_177, w52_121, w52_122, x52_123_47, x52_123_177, x52_126_47, x52_126_177, w52_129, w52_130, x52_131_47, x52_131_177, x52_134_47, x52_134_177, w52_137, w52_138, x52_139_47, x52_139_177, x52_142_47, x52_142_177, w52_145, w52_146, x52_147_47, x52_147_177, x52_150_47, x52_150_177, w52_153, rt52, ow52, pl1_53, aw_st, ai_cls, ai_len, ai_p, ai_sw, ai_m, ai_c, ai_at, ai_isI, ai_isJ, ai_isA, ai_ld, ai_1i, ai_2i, ai_2l, ai_cn, ai_j, ai_set, ai_set2, ai_nl, ai_rs, ai_sm, Value.category, hk0, hk1, lits, litb, litm, litm2, List.getElem?_cons_zero, List.getElem?_cons_succ, or_n0, bit_r, fi0, fi1, fi2, fi3, nI_toInt, nI_add, pk_mul, nI_leI, nI_ltI, nI_eq, pk_sub, ib_nI, nI_clamp, va_up_self, va_up_ne, va_up_up, va_up_comm, pk_us, pk_un, upd_up, updL_up, pk_uLs, pk_uLn, b01_1, b01_0, b01_1s, b01_0s, or_b, ai_cp, hG, c0_, c8_, mm178, mu178, mm179, mu179, mm180, mu180, mm181, mu181, mm182, mu182, mm183, mu183, mm184, mu184, mm48, mm49, mm50, mm51, mm52, mm53, mm54]
theorem ccX_47_154 {f : Nat → Int32} (hf : f = fun j => if 7 ≤ j ∧ j ≤ 12 then X 154 j else X 47 j) : va_up (va_up (va_up (va_up (va_up (va_up X 47 f) 49 (va_cpy (X 156) (X 49) 0 0 8)) 50 (va_cpy (X 157) (X 50) 0 0 8)) 52 (va_cpy (X 159) (X 52) 0 0 8)) 53 (va_cpy (X 160) (X 53) 0 0 8)) 54 (va_cpy (X 161) (X 54) 0 0 8) = ccX X 47 154 := by
  funext k
  unfold ccX
  subst hf
  by_cases c : k < 47 ∨ 54 < k
  · simp only [va_up, show ¬ k = 47 by omega, show ¬ k = 49 by omega, show ¬ k = 50 by omega, show ¬ k = 52 by omega, show ¬ k = 53 by omega, show ¬ k = 54 by omega, show ¬ (k = 47 + 2 ∨ k = 47 + 3 ∨ k = 47 + 5 ∨ k = 47 + 6 ∨ k = 47 + 7) by omega, or_self, if_false]
  · rcases (show k = 47 ∨ k = 48 ∨ k = 49 ∨ k = 50 ∨ k = 51 ∨ k = 52 ∨ k = 53 ∨ k = 54 by omega) with rfl | rfl | rfl | rfl | rfl | rfl | rfl | rfl <;> simp [va_up]
theorem ccY_47_154 : va_up (va_up Y 48 (va_cpy (Y 155) (Y 48) 0 0 8)) 51 (va_cpy (Y 158) (Y 51) 0 0 8) = ccY Y 47 154 := by
  funext k
  unfold ccY
  by_cases c : k = 51
  · subst c; simp [va_up]
  · by_cases e : k = 48
    · subst e; simp [va_up]
    · simp only [va_up, c, e, if_false, show ¬ (k = 47 + 1 ∨ k = 47 + 4) by omega, or_self]
set_option maxHeartbeats 8000000 in
set_option maxRecDepth 40000 in
theorem ccopy_47_154 (hG : G.1 = false) : aw ET G (d + 1) 52 0 [some (.ref 47), some (.ref 154)] [] 231 sl (mem X Y) Q = Q [] 231 sl (mem (ccX X 47 154) (ccY Y 47 154)) := by
  rw [← ccX_47_154 (f := upd (upd (upd (upd (upd (upd (X 47) 7 (X 154 7)) 8 (X 154 8)) 9 (X 154 9)) 10 (X 154 10)) 11 (X 154 11)) 12 (X 154 12)) (by
    funext j
    by_cases c : 7 ≤ j ∧ j ≤ 12
    · rcases (show j = 7 ∨ j = 8 ∨ j = 9 ∨ j = 10 ∨ j = 11 ∨ j = 12 by omega) with rfl | rfl | rfl | rfl | rfl | rfl <;> simp [upd]
    · simp only [c, if_false, upd, show ¬ j = 7 by omega, show ¬ j = 8 by omega, show ¬ j = 9 by omega, show ¬ j = 10 by omega, show ¬ j = 11 by omega, show ¬ j = 12 by omega]), ← ccY_47_154]
  simp (disch := omega) [w52_0, x52_1_47, x52_1_154, w52_4, w52_5, x52_6_47, x52_6_154, w52_9, w52_10, w52_12, w52_15, x52_16_47, x52_16_154, w52_19, w52_20, x52_21_47, x52_21_154, w52_24, w52_25, w52_27, w52_30, x52_31_47, x52_31_154, w52_34, w52_35, x52_36_47, x52_36_154, w52_39, w52_40, w52_42, w52_45, x52_46_47, x52_46_154, w52_49, w52_50, x52_51_47, x52_51_154, w52_54, w52_55, w52_57, w52_60, x52_61_47, x52_61_154, w52_64, w52_65, x52_66_47, x52_66_154, w52_69, w52_70, w52_72, w52_75, x52_76_47, x52_76_154, w52_79, w52_80, x52_81_47, x52_81_154, w52_84, w52_85, w52_87, w52_90, x52_91_47, x52_91_154, w52_94, w52_95, x52_96_47, x52_96_154, w52_99, w52_100, w52_102, w52_105, w52_106, x52_107_47, x52_107_154, x52_110_47, x52_110_154, w52_113, w52_114, x52_115_47, x52_115_154, x52_118_47, x52_118_154, w52_121, w52_122, x52_123_47, x52_123_154, x52_126_47, x52_126_154, w52_129, w52_130, x52_131_47, x52_131_154, x52_134_47, x52_134_154, w52_137, w52_138, x52_139_47, x52_139_154, x52_142_47, x52_142_154, w52_145, w52_146, x52_147_47, x52_147_154, x52_150_47, x52_150_154, w52_153, rt52, ow52, pl1_53, aw_st, ai_cls, ai_len, ai_p, ai_sw, ai_m, ai_c, ai_at, ai_isI, ai_isJ, ai_isA, ai_ld, ai_1i, ai_2i, ai_2l, ai_cn, ai_j, ai_set, ai_set2, ai_nl, ai_rs, ai_sm, Value.category, hk0, hk1, lits, litb, litm, litm2, List.getElem?_cons_zero, List.getElem?_cons_succ, or_n0, bit_r, fi0, fi1, fi2, fi3, nI_toInt, nI_add, pk_mul, nI_leI, nI_ltI, nI_eq, pk_sub, ib_nI, nI_clamp, va_up_self, va_up_ne, va_up_up, va_up_comm, pk_us, pk_un, upd_up, updL_up, pk_uLs, pk_uLn, b01_1, b01_0, b01_1s, b01_0s, or_b, ai_cp, hG, c0_, c8_, mm48, mu48, mm49, mu49, mm50, mu50, mm51, mu51, mm52, mu52, mm53, mu53, mm54, mu54, mm155, mm156, mm157, mm158, mm159, mm160, mm161]
theorem ccX_47_177 {f : Nat → Int32} (hf : f = fun j => if 7 ≤ j ∧ j ≤ 12 then X 177 j else X 47 j) : va_up (va_up (va_up (va_up (va_up (va_up X 47 f) 49 (va_cpy (X 179) (X 49) 0 0 8)) 50 (va_cpy (X 180) (X 50) 0 0 8)) 52 (va_cpy (X 182) (X 52) 0 0 8)) 53 (va_cpy (X 183) (X 53) 0 0 8)) 54 (va_cpy (X 184) (X 54) 0 0 8) = ccX X 47 177 := by
  funext k
  unfold ccX
  subst hf
  by_cases c : k < 47 ∨ 54 < k
  · simp only [va_up, show ¬ k = 47 by omega, show ¬ k = 49 by omega, show ¬ k = 50 by omega, show ¬ k = 52 by omega, show ¬ k = 53 by omega, show ¬ k = 54 by omega, show ¬ (k = 47 + 2 ∨ k = 47 + 3 ∨ k = 47 + 5 ∨ k = 47 + 6 ∨ k = 47 + 7) by omega, or_self, if_false]
  · rcases (show k = 47 ∨ k = 48 ∨ k = 49 ∨ k = 50 ∨ k = 51 ∨ k = 52 ∨ k = 53 ∨ k = 54 by omega) with rfl | rfl | rfl | rfl | rfl | rfl | rfl | rfl <;> simp [va_up]
theorem ccY_47_177 : va_up (va_up Y 48 (va_cpy (Y 178) (Y 48) 0 0 8)) 51 (va_cpy (Y 181) (Y 51) 0 0 8) = ccY Y 47 177 := by
  funext k
  unfold ccY
  by_cases c : k = 51
  · subst c; simp [va_up]
  · by_cases e : k = 48
    · subst e; simp [va_up]
    · simp only [va_up, c, e, if_false, show ¬ (k = 47 + 1 ∨ k = 47 + 4) by omega, or_self]
set_option maxHeartbeats 8000000 in
set_option maxRecDepth 40000 in
theorem ccopy_47_177 (hG : G.1 = false) : aw ET G (d + 1) 52 0 [some (.ref 47), some (.ref 177)] [] 231 sl (mem X Y) Q = Q [] 231 sl (mem (ccX X 47 177) (ccY Y 47 177)) := by
  rw [← ccX_47_177 (f := upd (upd (upd (upd (upd (upd (X 47) 7 (X 177 7)) 8 (X 177 8)) 9 (X 177 9)) 10 (X 177 10)) 11 (X 177 11)) 12 (X 177 12)) (by
    funext j
    by_cases c : 7 ≤ j ∧ j ≤ 12
    · rcases (show j = 7 ∨ j = 8 ∨ j = 9 ∨ j = 10 ∨ j = 11 ∨ j = 12 by omega) with rfl | rfl | rfl | rfl | rfl | rfl <;> simp [upd]
    · simp only [c, if_false, upd, show ¬ j = 7 by omega, show ¬ j = 8 by omega, show ¬ j = 9 by omega, show ¬ j = 10 by omega, show ¬ j = 11 by omega, show ¬ j = 12 by omega]), ← ccY_47_177]
  simp (disch := omega) [w52_0, x52_1_47, x52_1_177, w52_4, w52_5, x52_6_47, x52_6_177, w52_9, w52_10, w52_12, w52_15, x52_16_47, x52_16_177, w52_19, w52_20, x52_21_47, x52_21_177, w52_24, w52_25, w52_27, w52_30, x52_31_47, x52_31_177, w52_34, w52_35, x52_36_47, x52_36_177, w52_39, w52_40, w52_42, w52_45, x52_46_47, x52_46_177, w52_49, w52_50, x52_51_47, x52_51_177, w52_54, w52_55, w52_57, w52_60, x52_61_47, x52_61_177, w52_64, w52_65, x52_66_47, x52_66_177, w52_69, w52_70, w52_72, w52_75, x52_76_47, x52_76_177, w52_79, w52_80, x52_81_47, x52_81_177, w52_84, w52_85, w52_87, w52_90, x52_91_47, x52_91_177, w52_94, w52_95, x52_96_47, x52_96_177, w52_99, w52_100, w52_102, w52_105, w52_106, x52_107_47, x52_107_177, x52_110_47, x52_110_177, w52_113, w52_114, x52_115_47, x52_115_177, x52_118_47, x52_118_177, w52_121, w52_122, x52_123_47, x52_123_177, x52_126_47, x52_126_177, w52_129, w52_130, x52_131_47, x52_131_177, x52_134_47, x52_134_177, w52_137, w52_138, x52_139_47, x52_139_177, x52_142_47, x52_142_177, w52_145, w52_146, x52_147_47, x52_147_177, x52_150_47, x52_150_177, w52_153, rt52, ow52, pl1_53, aw_st, ai_cls, ai_len, ai_p, ai_sw, ai_m, ai_c, ai_at, ai_isI, ai_isJ, ai_isA, ai_ld, ai_1i, ai_2i, ai_2l, ai_cn, ai_j, ai_set, ai_set2, ai_nl, ai_rs, ai_sm, Value.category, hk0, hk1, lits, litb, litm, litm2, List.getElem?_cons_zero, List.getElem?_cons_succ, or_n0, bit_r, fi0, fi1, fi2, fi3, nI_toInt, nI_add, pk_mul, nI_leI, nI_ltI, nI_eq, pk_sub, ib_nI, nI_clamp, va_up_self, va_up_ne, va_up_up, va_up_comm, pk_us, pk_un, upd_up, updL_up, pk_uLs, pk_uLn, b01_1, b01_0, b01_1s, b01_0s, or_b, ai_cp, hG, c0_, c8_, mm48, mu48, mm49, mu49, mm50, mu50, mm51, mu51, mm52, mu52, mm53, mu53, mm54, mu54, mm178, mm179, mm180, mm181, mm182, mm183, mm184]
theorem scX_56_14 {f : Nat → Int32} (hf : f = fun j => if j = 4 ∨ j = 5 then X 14 j else X 56 j) : va_up (va_up (va_up (va_up X 56 f) 57 (va_cpy (X 15) (X 57) 0 0 40)) 58 (va_cpy (X 16) (X 58) 0 0 40)) 59 (va_cpy (X 17) (X 59) 0 0 40) = scX X 56 14 := by
  funext k
  unfold scX
  subst hf
  by_cases c : k < 56 ∨ 59 < k
  · simp only [va_up, show ¬ k = 56 by omega, show ¬ k = 57 by omega, show ¬ k = 58 by omega, show ¬ k = 59 by omega, show ¬ (k = 56 + 1 ∨ k = 56 + 2 ∨ k = 56 + 3) by omega, or_self, if_false]
  · rcases (show k = 56 ∨ k = 57 ∨ k = 58 ∨ k = 59 by omega) with rfl | rfl | rfl | rfl <;> simp [va_up]
set_option maxHeartbeats 8000000 in
set_option maxRecDepth 40000 in
theorem scopy_56_14 (hG : G.1 = false) : aw ET G (d + 1) 54 0 [some (.ref 56), some (.ref 14)] [] 231 sl (mem X Y) Q = Q [] 231 sl (mem (scX X 56 14) Y) := by
  rw [← scX_56_14 (f := upd (upd (X 56) 4 (X 14 4)) 5 (X 14 5)) (by
    funext j
    by_cases c : j = 4 ∨ j = 5
    · rcases c with rfl | rfl <;> simp [upd]
    · simp only [c, if_false, upd, show ¬ j = 4 by omega, show ¬ j = 5 by omega, or_self])]
  simp (disch := omega) [w54_0, x54_1_14, x54_1_56, w54_4, w54_5, x54_6_14, x54_6_56, w54_9, w54_10, w54_12, w54_15, x54_16_14, x54_16_56, w54_19, w54_20, x54_21_14, x54_21_56, w54_24, w54_25, w54_27, w54_30, x54_31_14, x54_31_56, w54_34, w54_35, x54_36_14, x54_36_56, w54_39, w54_40, w54_42, w54_45, w54_46, x54_47_14, x54_47_56, x54_50_14, x54_50_56, w54_53, w54_54, x54_55_14, x54_55_56, x54_58_14, x54_58_56, w54_61, rt54, ow54, pl8_31, aw_st, ai_cls, ai_len, ai_p, ai_sw, ai_m, ai_c, ai_at, ai_isI, ai_isJ, ai_isA, ai_ld, ai_1i, ai_2i, ai_2l, ai_cn, ai_j, ai_set, ai_set2, ai_nl, ai_rs, ai_sm, Value.category, hk0, hk1, lits, litb, litm, litm2, List.getElem?_cons_zero, List.getElem?_cons_succ, or_n0, bit_r, fi0, fi1, fi2, fi3, nI_toInt, nI_add, pk_mul, nI_leI, nI_ltI, nI_eq, pk_sub, ib_nI, nI_clamp, va_up_self, va_up_ne, va_up_up, va_up_comm, pk_us, pk_un, upd_up, updL_up, pk_uLs, pk_uLn, b01_1, b01_0, b01_1s, b01_0s, or_b, ai_cp, hG, c0_, c40_, mm57, mu57, mm58, mu58, mm59, mu59, mm15, mm16, mm17]
theorem scX_162_56 {f : Nat → Int32} (hf : f = fun j => if j = 4 ∨ j = 5 then X 56 j else X 162 j) : va_up (va_up (va_up (va_up X 162 f) 163 (va_cpy (X 57) (X 163) 0 0 40)) 164 (va_cpy (X 58) (X 164) 0 0 40)) 165 (va_cpy (X 59) (X 165) 0 0 40) = scX X 162 56 := by
  funext k
  unfold scX
  subst hf
  by_cases c : k < 162 ∨ 165 < k
  · simp only [va_up, show ¬ k = 162 by omega, show ¬ k = 163 by omega, show ¬ k = 164 by omega, show ¬ k = 165 by omega, show ¬ (k = 162 + 1 ∨ k = 162 + 2 ∨ k = 162 + 3) by omega, or_self, if_false]
  · rcases (show k = 162 ∨ k = 163 ∨ k = 164 ∨ k = 165 by omega) with rfl | rfl | rfl | rfl <;> simp [va_up]
set_option maxHeartbeats 8000000 in
set_option maxRecDepth 40000 in
theorem scopy_162_56 (hG : G.1 = false) : aw ET G (d + 1) 54 0 [some (.ref 162), some (.ref 56)] [] 231 sl (mem X Y) Q = Q [] 231 sl (mem (scX X 162 56) Y) := by
  rw [← scX_162_56 (f := upd (upd (X 162) 4 (X 56 4)) 5 (X 56 5)) (by
    funext j
    by_cases c : j = 4 ∨ j = 5
    · rcases c with rfl | rfl <;> simp [upd]
    · simp only [c, if_false, upd, show ¬ j = 4 by omega, show ¬ j = 5 by omega, or_self])]
  simp (disch := omega) [w54_0, x54_1_56, x54_1_162, w54_4, w54_5, x54_6_56, x54_6_162, w54_9, w54_10, w54_12, w54_15, x54_16_56, x54_16_162, w54_19, w54_20, x54_21_56, x54_21_162, w54_24, w54_25, w54_27, w54_30, x54_31_56, x54_31_162, w54_34, w54_35, x54_36_56, x54_36_162, w54_39, w54_40, w54_42, w54_45, w54_46, x54_47_56, x54_47_162, x54_50_56, x54_50_162, w54_53, w54_54, x54_55_56, x54_55_162, x54_58_56, x54_58_162, w54_61, rt54, ow54, pl8_31, aw_st, ai_cls, ai_len, ai_p, ai_sw, ai_m, ai_c, ai_at, ai_isI, ai_isJ, ai_isA, ai_ld, ai_1i, ai_2i, ai_2l, ai_cn, ai_j, ai_set, ai_set2, ai_nl, ai_rs, ai_sm, Value.category, hk0, hk1, lits, litb, litm, litm2, List.getElem?_cons_zero, List.getElem?_cons_succ, or_n0, bit_r, fi0, fi1, fi2, fi3, nI_toInt, nI_add, pk_mul, nI_leI, nI_ltI, nI_eq, pk_sub, ib_nI, nI_clamp, va_up_self, va_up_ne, va_up_up, va_up_comm, pk_us, pk_un, upd_up, updL_up, pk_uLs, pk_uLn, b01_1, b01_0, b01_1s, b01_0s, or_b, ai_cp, hG, c0_, c40_, mm163, mu163, mm164, mu164, mm165, mu165, mm57, mm58, mm59]
theorem scX_185_56 {f : Nat → Int32} (hf : f = fun j => if j = 4 ∨ j = 5 then X 56 j else X 185 j) : va_up (va_up (va_up (va_up X 185 f) 186 (va_cpy (X 57) (X 186) 0 0 40)) 187 (va_cpy (X 58) (X 187) 0 0 40)) 188 (va_cpy (X 59) (X 188) 0 0 40) = scX X 185 56 := by
  funext k
  unfold scX
  subst hf
  by_cases c : k < 185 ∨ 188 < k
  · simp only [va_up, show ¬ k = 185 by omega, show ¬ k = 186 by omega, show ¬ k = 187 by omega, show ¬ k = 188 by omega, show ¬ (k = 185 + 1 ∨ k = 185 + 2 ∨ k = 185 + 3) by omega, or_self, if_false]
  · rcases (show k = 185 ∨ k = 186 ∨ k = 187 ∨ k = 188 by omega) with rfl | rfl | rfl | rfl <;> simp [va_up]
set_option maxHeartbeats 8000000 in
set_option maxRecDepth 40000 in
theorem scopy_185_56 (hG : G.1 = false) : aw ET G (d + 1) 54 0 [some (.ref 185), some (.ref 56)] [] 231 sl (mem X Y) Q = Q [] 231 sl (mem (scX X 185 56) Y) := by
  rw [← scX_185_56 (f := upd (upd (X 185) 4 (X 56 4)) 5 (X 56 5)) (by
    funext j
    by_cases c : j = 4 ∨ j = 5
    · rcases c with rfl | rfl <;> simp [upd]
    · simp only [c, if_false, upd, show ¬ j = 4 by omega, show ¬ j = 5 by omega, or_self])]
  simp (disch := omega) [w54_0, x54_1_56, x54_1_185, w54_4, w54_5, x54_6_56, x54_6_185, w54_9, w54_10, w54_12, w54_15, x54_16_56, x54_16_185, w54_19, w54_20, x54_21_56, x54_21_185, w54_24, w54_25, w54_27, w54_30, x54_31_56, x54_31_185, w54_34, w54_35, x54_36_56, x54_36_185, w54_39, w54_40, w54_42, w54_45, w54_46, x54_47_56, x54_47_185, x54_50_56, x54_50_185, w54_53, w54_54, x54_55_56, x54_55_185, x54_58_56, x54_58_185, w54_61, rt54, ow54, pl8_31, aw_st, ai_cls, ai_len, ai_p, ai_sw, ai_m, ai_c, ai_at, ai_isI, ai_isJ, ai_isA, ai_ld, ai_1i, ai_2i, ai_2l, ai_cn, ai_j, ai_set, ai_set2, ai_nl, ai_rs, ai_sm, Value.category, hk0, hk1, lits, litb, litm, litm2, List.getElem?_cons_zero, List.getElem?_cons_succ, or_n0, bit_r, fi0, fi1, fi2, fi3, nI_toInt, nI_add, pk_mul, nI_leI, nI_ltI, nI_eq, pk_sub, ib_nI, nI_clamp, va_up_self, va_up_ne, va_up_up, va_up_comm, pk_us, pk_un, upd_up, updL_up, pk_uLs, pk_uLn, b01_1, b01_0, b01_1s, b01_0s, or_b, ai_cp, hG, c0_, c40_, mm186, mu186, mm187, mu187, mm188, mu188, mm57, mm58, mm59]
theorem scX_56_162 {f : Nat → Int32} (hf : f = fun j => if j = 4 ∨ j = 5 then X 162 j else X 56 j) : va_up (va_up (va_up (va_up X 56 f) 57 (va_cpy (X 163) (X 57) 0 0 40)) 58 (va_cpy (X 164) (X 58) 0 0 40)) 59 (va_cpy (X 165) (X 59) 0 0 40) = scX X 56 162 := by
  funext k
  unfold scX
  subst hf
  by_cases c : k < 56 ∨ 59 < k
  · simp only [va_up, show ¬ k = 56 by omega, show ¬ k = 57 by omega, show ¬ k = 58 by omega, show ¬ k = 59 by omega, show ¬ (k = 56 + 1 ∨ k = 56 + 2 ∨ k = 56 + 3) by omega, or_self, if_false]
  · rcases (show k = 56 ∨ k = 57 ∨ k = 58 ∨ k = 59 by omega) with rfl | rfl | rfl | rfl <;> simp [va_up]
set_option maxHeartbeats 8000000 in
set_option maxRecDepth 40000 in
theorem scopy_56_162 (hG : G.1 = false) : aw ET G (d + 1) 54 0 [some (.ref 56), some (.ref 162)] [] 231 sl (mem X Y) Q = Q [] 231 sl (mem (scX X 56 162) Y) := by
  rw [← scX_56_162 (f := upd (upd (X 56) 4 (X 162 4)) 5 (X 162 5)) (by
    funext j
    by_cases c : j = 4 ∨ j = 5
    · rcases c with rfl | rfl <;> simp [upd]
    · simp only [c, if_false, upd, show ¬ j = 4 by omega, show ¬ j = 5 by omega, or_self])]
  simp (disch := omega) [w54_0, x54_1_56, x54_1_162, w54_4, w54_5, x54_6_56, x54_6_162, w54_9, w54_10, w54_12, w54_15, x54_16_56, x54_16_162, w54_19, w54_20, x54_21_56, x54_21_162, w54_24, w54_25, w54_27, w54_30, x54_31_56, x54_31_162, w54_34, w54_35, x54_36_56, x54_36_162, w54_39, w54_40, w54_42, w54_45, w54_46, x54_47_56, x54_47_162, x54_50_56, x54_50_162, w54_53, w54_54, x54_55_56, x54_55_162, x54_58_56, x54_58_162, w54_61, rt54, ow54, pl8_31, aw_st, ai_cls, ai_len, ai_p, ai_sw, ai_m, ai_c, ai_at, ai_isI, ai_isJ, ai_isA, ai_ld, ai_1i, ai_2i, ai_2l, ai_cn, ai_j, ai_set, ai_set2, ai_nl, ai_rs, ai_sm, Value.category, hk0, hk1, lits, litb, litm, litm2, List.getElem?_cons_zero, List.getElem?_cons_succ, or_n0, bit_r, fi0, fi1, fi2, fi3, nI_toInt, nI_add, pk_mul, nI_leI, nI_ltI, nI_eq, pk_sub, ib_nI, nI_clamp, va_up_self, va_up_ne, va_up_up, va_up_comm, pk_us, pk_un, upd_up, updL_up, pk_uLs, pk_uLn, b01_1, b01_0, b01_1s, b01_0s, or_b, ai_cp, hG, c0_, c40_, mm57, mu57, mm58, mu58, mm59, mu59, mm163, mm164, mm165]
theorem scX_56_185 {f : Nat → Int32} (hf : f = fun j => if j = 4 ∨ j = 5 then X 185 j else X 56 j) : va_up (va_up (va_up (va_up X 56 f) 57 (va_cpy (X 186) (X 57) 0 0 40)) 58 (va_cpy (X 187) (X 58) 0 0 40)) 59 (va_cpy (X 188) (X 59) 0 0 40) = scX X 56 185 := by
  funext k
  unfold scX
  subst hf
  by_cases c : k < 56 ∨ 59 < k
  · simp only [va_up, show ¬ k = 56 by omega, show ¬ k = 57 by omega, show ¬ k = 58 by omega, show ¬ k = 59 by omega, show ¬ (k = 56 + 1 ∨ k = 56 + 2 ∨ k = 56 + 3) by omega, or_self, if_false]
  · rcases (show k = 56 ∨ k = 57 ∨ k = 58 ∨ k = 59 by omega) with rfl | rfl | rfl | rfl <;> simp [va_up]
set_option maxHeartbeats 8000000 in
set_option maxRecDepth 40000 in
theorem scopy_56_185 (hG : G.1 = false) : aw ET G (d + 1) 54 0 [some (.ref 56), some (.ref 185)] [] 231 sl (mem X Y) Q = Q [] 231 sl (mem (scX X 56 185) Y) := by
  rw [← scX_56_185 (f := upd (upd (X 56) 4 (X 185 4)) 5 (X 185 5)) (by
    funext j
    by_cases c : j = 4 ∨ j = 5
    · rcases c with rfl | rfl <;> simp [upd]
    · simp only [c, if_false, upd, show ¬ j = 4 by omega, show ¬ j = 5 by omega, or_self])]
  simp (disch := omega) [w54_0, x54_1_56, x54_1_185, w54_4, w54_5, x54_6_56, x54_6_185, w54_9, w54_10, w54_12, w54_15, x54_16_56, x54_16_185, w54_19, w54_20, x54_21_56, x54_21_185, w54_24, w54_25, w54_27, w54_30, x54_31_56, x54_31_185, w54_34, w54_35, x54_36_56, x54_36_185, w54_39, w54_40, w54_42, w54_45, w54_46, x54_47_56, x54_47_185, x54_50_56, x54_50_185, w54_53, w54_54, x54_55_56, x54_55_185, x54_58_56, x54_58_185, w54_61, rt54, ow54, pl8_31, aw_st, ai_cls, ai_len, ai_p, ai_sw, ai_m, ai_c, ai_at, ai_isI, ai_isJ, ai_isA, ai_ld, ai_1i, ai_2i, ai_2l, ai_cn, ai_j, ai_set, ai_set2, ai_nl, ai_rs, ai_sm, Value.category, hk0, hk1, lits, litb, litm, litm2, List.getElem?_cons_zero, List.getElem?_cons_succ, or_n0, bit_r, fi0, fi1, fi2, fi3, nI_toInt, nI_add, pk_mul, nI_leI, nI_ltI, nI_eq, pk_sub, ib_nI, nI_clamp, va_up_self, va_up_ne, va_up_up, va_up_comm, pk_us, pk_un, upd_up, updL_up, pk_uLs, pk_uLn, b01_1, b01_0, b01_1s, b01_0s, or_b, ai_cp, hG, c0_, c40_, mm57, mu57, mm58, mu58, mm59, mu59, mm186, mm187, mm188]
/-- a Place that is a copy: Charters a, b; Lives o, q; Sentences s, t -/
def plX (X : mX) (a b o q s t : Nat) : mX := scX (plv (ccX X a b) o (cpyL (lv (ccX X a b) o) (lv (ccX X a b) q))) s t
set_option maxHeartbeats 8000000 in
set_option maxRecDepth 40000 in
theorem pcopy_55_5 (hG : G.1 = false) : aw ET G (d + 2) 51 0 [some (.ref 55), some (.ref 5)] [] 231 sl (mem X Y) Q = Q [] 231 sl (mem (plX X 47 6 61 19 56 14) (ccY Y 47 6)) := by
  have h := fun (X : mX) (Y : mY) (Q : List Value → Nat → Nat → ai_M → Prop) => lcopyM (G := G) (d := d) (sl := sl) (Q := Q) (X := X) (Y := Y) (o := 61) (q := 19) hG (by simp [isLf]) (by simp [isLf]) (by omega)
  simp (disch := omega) [w51_0, x51_1_5, x51_1_55, w51_4, x51_5_5, x51_5_55, x51_8_6, x51_8_47, w51_11, x51_12_5, x51_12_55, w51_15, x51_16_5, x51_16_55, x51_19_19, x51_19_61, w51_22, x51_23_5, x51_23_55, w51_26, x51_27_5, x51_27_55, x51_30_14, x51_30_56, w51_33, rt51, aw_st, ai_cls, ai_len, ai_p, ai_sw, ai_m, ai_c, ai_at, ai_isI, ai_isJ, ai_isA, ai_ld, ai_1i, ai_2i, ai_2l, ai_cn, ai_j, ai_set, ai_set2, ai_nl, ai_rs, ai_sm, Value.category, hk0, hk1, lits, litb, litm, litm2, List.getElem?_cons_zero, List.getElem?_cons_succ, or_n0, bit_r, fi0, fi1, fi2, fi3, nI_toInt, nI_add, pk_mul, nI_leI, nI_ltI, nI_eq, pk_sub, ib_nI, nI_clamp, va_up_self, va_up_ne, va_up_up, va_up_comm, pk_us, pk_un, upd_up, updL_up, pk_uLs, pk_uLn, b01_1, b01_0, b01_1s, b01_0s, or_b, ccopy_47_6 hG, h, scopy_56_14 hG]
  rfl
set_option maxHeartbeats 8000000 in
set_option maxRecDepth 40000 in
theorem pcopy_153_55 (hG : G.1 = false) : aw ET G (d + 2) 51 0 [some (.ref 153), some (.ref 55)] [] 231 sl (mem X Y) Q = Q [] 231 sl (mem (plX X 154 47 167 61 162 56) (ccY Y 154 47)) := by
  have h := fun (X : mX) (Y : mY) (Q : List Value → Nat → Nat → ai_M → Prop) => lcopyM (G := G) (d := d) (sl := sl) (Q := Q) (X := X) (Y := Y) (o := 167) (q := 61) hG (by simp [isLf]) (by simp [isLf]) (by omega)
  simp (disch := omega) [w51_0, x51_1_55, x51_1_153, w51_4, x51_5_55, x51_5_153, x51_8_47, x51_8_154, w51_11, x51_12_55, x51_12_153, w51_15, x51_16_55, x51_16_153, x51_19_61, x51_19_167, w51_22, x51_23_55, x51_23_153, w51_26, x51_27_55, x51_27_153, x51_30_56, x51_30_162, w51_33, rt51, aw_st, ai_cls, ai_len, ai_p, ai_sw, ai_m, ai_c, ai_at, ai_isI, ai_isJ, ai_isA, ai_ld, ai_1i, ai_2i, ai_2l, ai_cn, ai_j, ai_set, ai_set2, ai_nl, ai_rs, ai_sm, Value.category, hk0, hk1, lits, litb, litm, litm2, List.getElem?_cons_zero, List.getElem?_cons_succ, or_n0, bit_r, fi0, fi1, fi2, fi3, nI_toInt, nI_add, pk_mul, nI_leI, nI_ltI, nI_eq, pk_sub, ib_nI, nI_clamp, va_up_self, va_up_ne, va_up_up, va_up_comm, pk_us, pk_un, upd_up, updL_up, pk_uLs, pk_uLn, b01_1, b01_0, b01_1s, b01_0s, or_b, ccopy_154_47 hG, h, scopy_162_56 hG]
  rfl
set_option maxHeartbeats 8000000 in
set_option maxRecDepth 40000 in
theorem pcopy_176_55 (hG : G.1 = false) : aw ET G (d + 2) 51 0 [some (.ref 176), some (.ref 55)] [] 231 sl (mem X Y) Q = Q [] 231 sl (mem (plX X 177 47 190 61 185 56) (ccY Y 177 47)) := by
  have h := fun (X : mX) (Y : mY) (Q : List Value → Nat → Nat → ai_M → Prop) => lcopyM (G := G) (d := d) (sl := sl) (Q := Q) (X := X) (Y := Y) (o := 190) (q := 61) hG (by simp [isLf]) (by simp [isLf]) (by omega)
  simp (disch := omega) [w51_0, x51_1_55, x51_1_176, w51_4, x51_5_55, x51_5_176, x51_8_47, x51_8_177, w51_11, x51_12_55, x51_12_176, w51_15, x51_16_55, x51_16_176, x51_19_61, x51_19_190, w51_22, x51_23_55, x51_23_176, w51_26, x51_27_55, x51_27_176, x51_30_56, x51_30_185, w51_33, rt51, aw_st, ai_cls, ai_len, ai_p, ai_sw, ai_m, ai_c, ai_at, ai_isI, ai_isJ, ai_isA, ai_ld, ai_1i, ai_2i, ai_2l, ai_cn, ai_j, ai_set, ai_set2, ai_nl, ai_rs, ai_sm, Value.category, hk0, hk1, lits, litb, litm, litm2, List.getElem?_cons_zero, List.getElem?_cons_succ, or_n0, bit_r, fi0, fi1, fi2, fi3, nI_toInt, nI_add, pk_mul, nI_leI, nI_ltI, nI_eq, pk_sub, ib_nI, nI_clamp, va_up_self, va_up_ne, va_up_up, va_up_comm, pk_us, pk_un, upd_up, updL_up, pk_uLs, pk_uLn, b01_1, b01_0, b01_1s, b01_0s, or_b, ccopy_177_47 hG, h, scopy_185_56 hG]
  rfl
set_option maxHeartbeats 8000000 in
set_option maxRecDepth 40000 in
theorem pcopy_55_153 (hG : G.1 = false) : aw ET G (d + 2) 51 0 [some (.ref 55), some (.ref 153)] [] 231 sl (mem X Y) Q = Q [] 231 sl (mem (plX X 47 154 61 167 56 162) (ccY Y 47 154)) := by
  have h := fun (X : mX) (Y : mY) (Q : List Value → Nat → Nat → ai_M → Prop) => lcopyM (G := G) (d := d) (sl := sl) (Q := Q) (X := X) (Y := Y) (o := 61) (q := 167) hG (by simp [isLf]) (by simp [isLf]) (by omega)
  simp (disch := omega) [w51_0, x51_1_55, x51_1_153, w51_4, x51_5_55, x51_5_153, x51_8_47, x51_8_154, w51_11, x51_12_55, x51_12_153, w51_15, x51_16_55, x51_16_153, x51_19_61, x51_19_167, w51_22, x51_23_55, x51_23_153, w51_26, x51_27_55, x51_27_153, x51_30_56, x51_30_162, w51_33, rt51, aw_st, ai_cls, ai_len, ai_p, ai_sw, ai_m, ai_c, ai_at, ai_isI, ai_isJ, ai_isA, ai_ld, ai_1i, ai_2i, ai_2l, ai_cn, ai_j, ai_set, ai_set2, ai_nl, ai_rs, ai_sm, Value.category, hk0, hk1, lits, litb, litm, litm2, List.getElem?_cons_zero, List.getElem?_cons_succ, or_n0, bit_r, fi0, fi1, fi2, fi3, nI_toInt, nI_add, pk_mul, nI_leI, nI_ltI, nI_eq, pk_sub, ib_nI, nI_clamp, va_up_self, va_up_ne, va_up_up, va_up_comm, pk_us, pk_un, upd_up, updL_up, pk_uLs, pk_uLn, b01_1, b01_0, b01_1s, b01_0s, or_b, ccopy_47_154 hG, h, scopy_56_162 hG]
  rfl
set_option maxHeartbeats 8000000 in
set_option maxRecDepth 40000 in
theorem pcopy_55_176 (hG : G.1 = false) : aw ET G (d + 2) 51 0 [some (.ref 55), some (.ref 176)] [] 231 sl (mem X Y) Q = Q [] 231 sl (mem (plX X 47 177 61 190 56 185) (ccY Y 47 177)) := by
  have h := fun (X : mX) (Y : mY) (Q : List Value → Nat → Nat → ai_M → Prop) => lcopyM (G := G) (d := d) (sl := sl) (Q := Q) (X := X) (Y := Y) (o := 61) (q := 190) hG (by simp [isLf]) (by simp [isLf]) (by omega)
  simp (disch := omega) [w51_0, x51_1_55, x51_1_176, w51_4, x51_5_55, x51_5_176, x51_8_47, x51_8_177, w51_11, x51_12_55, x51_12_176, w51_15, x51_16_55, x51_16_176, x51_19_61, x51_19_190, w51_22, x51_23_55, x51_23_176, w51_26, x51_27_55, x51_27_176, x51_30_56, x51_30_185, w51_33, rt51, aw_st, ai_cls, ai_len, ai_p, ai_sw, ai_m, ai_c, ai_at, ai_isI, ai_isJ, ai_isA, ai_ld, ai_1i, ai_2i, ai_2l, ai_cn, ai_j, ai_set, ai_set2, ai_nl, ai_rs, ai_sm, Value.category, hk0, hk1, lits, litb, litm, litm2, List.getElem?_cons_zero, List.getElem?_cons_succ, or_n0, bit_r, fi0, fi1, fi2, fi3, nI_toInt, nI_add, pk_mul, nI_leI, nI_ltI, nI_eq, pk_sub, ib_nI, nI_clamp, va_up_self, va_up_ne, va_up_up, va_up_comm, pk_us, pk_un, upd_up, updL_up, pk_uLs, pk_uLn, b01_1, b01_0, b01_1s, b01_0s, or_b, ccopy_47_177 hG, h, scopy_56_185 hG]
  rfl
theorem va_up_ne_id {α : Type} {X : Nat → α} {j k : Nat} {a : α} (h : ¬ k = j) : va_up (va_up X j a) k (X k) = va_up X j a := by
  funext i
  simp only [va_up]
  by_cases e : i = k
  · subst e; simp [h]
  · simp [e]
/-- draft.clear() -/
theorem cclear_6 : aw ET G d 27 0 [some (.ref 6)] [] 231 sl (mem X Y) Q = Q [] 231 sl (mem (va_up X 6 (upd (upd (upd (upd (upd (upd (X 6) 7 (nI 0)) 8 (nI 0)) 9 (nI 0)) 10 (nI 0)) 11 (nI 0)) 12 (nI 10))) Y) := by
  simp (disch := omega) [w27_0, w27_1, x27_2_6, w27_5, w27_6, x27_7_6, w27_10, w27_11, x27_12_6, w27_15, w27_16, x27_17_6, w27_20, w27_21, x27_22_6, w27_25, w27_26, x27_28_6, w27_31, rt27, aw_st, ai_cls, ai_len, ai_p, ai_sw, ai_m, ai_c, ai_at, ai_isI, ai_isJ, ai_isA, ai_ld, ai_1i, ai_2i, ai_2l, ai_cn, ai_j, ai_set, ai_set2, ai_nl, ai_rs, ai_sm, Value.category, hk0, hk1, lits, litb, litm, litm2, List.getElem?_cons_zero, List.getElem?_cons_succ, or_n0, bit_r, fi0, fi1, fi2, fi3, nI_toInt, nI_add, pk_mul, nI_leI, nI_ltI, nI_eq, pk_sub, ib_nI, nI_clamp, va_up_self, va_up_ne, va_up_up, va_up_comm, pk_us, pk_un, upd_up, updL_up, pk_uLs, pk_uLn, b01_1, b01_0, b01_1s, b01_0s, or_b]
theorem sclear_14 : aw ET G d 29 0 [some (.ref 14)] [] 231 sl (mem X Y) Q = Q [] 231 sl (mem (va_up X 14 (upd (upd (X 14) 4 (nI 0)) 5 (nI 0))) Y) := by
  simp (disch := omega) [w29_0, w29_1, x29_2_14, w29_5, w29_6, x29_7_14, w29_10, rt29, aw_st, ai_cls, ai_len, ai_p, ai_sw, ai_m, ai_c, ai_at, ai_isI, ai_isJ, ai_isA, ai_ld, ai_1i, ai_2i, ai_2l, ai_cn, ai_j, ai_set, ai_set2, ai_nl, ai_rs, ai_sm, Value.category, hk0, hk1, lits, litb, litm, litm2, List.getElem?_cons_zero, List.getElem?_cons_succ, or_n0, bit_r, fi0, fi1, fi2, fi3, nI_toInt, nI_add, pk_mul, nI_leI, nI_ltI, nI_eq, pk_sub, ib_nI, nI_clamp, va_up_self, va_up_ne, va_up_up, va_up_comm, pk_us, pk_un, upd_up, updL_up, pk_uLs, pk_uLn, b01_1, b01_0, b01_1s, b01_0s, or_b]
/-- nothing but the Life at 19 has changed -/
def F19 (X X' : mX) : Prop := ∀ k, k < 19 ∨ 26 < k → X' k = X k
set_option maxHeartbeats 8000000 in
set_option maxRecDepth 40000 in
theorem lclear_notes : ∀ (r i : Nat) (X : mX), i + r = 64 → (∀ q, q < i → X 24 q = nI 0) → (∀ h, (∀ q, q < 64 → h q = nI 0) → Q [] 231 sl (mem (va_up (va_up X 19 (upd (upd (upd (upd (upd (X 19) 9 (nI 0)) 10 (nI 0)) 11 (nI 0)) 12 (nI 0)) 13 (nI 0))) 24 h) Y)) → aw ET G d 28 58 [some (.ref 19), some (.int (nI i))] [] 231 sl (mem X Y) Q := by
  intro r
  induction r with
  | zero =>
    intro i X hi h0 hQ
    have : i = 64 := by omega
    subst this
    have := hQ (X 24) h0
    rw [va_up_ne_id (k := 24) (by omega)] at this
    simp (disch := omega) [w28_0, w28_1, w28_2, w28_3, w28_5, w28_8, x28_9_19, w28_12, w28_13, w28_14, w28_15, x28_16_19, w28_19, w28_20, w28_21, w28_22, x28_23_19, w28_26, w28_27, w28_28, w28_29, x28_30_19, w28_33, w28_34, w28_35, w28_36, x28_37_19, w28_40, w28_41, w28_42, w28_43, x28_44_19, w28_47, w28_48, w28_49, w28_50, w28_53, w28_56, w28_57, w28_58, w28_59, w28_61, w28_64, x28_65_19, w28_68, w28_69, w28_70, w28_71, w28_74, w28_77, w28_78, x28_79_19, w28_82, w28_83, x28_84_19, w28_87, w28_88, x28_89_19, w28_92, w28_93, x28_94_19, w28_97, w28_98, x28_99_19, w28_102, rt28, aw_st, ai_cls, ai_len, ai_p, ai_sw, ai_m, ai_c, ai_at, ai_isI, ai_isJ, ai_isA, ai_ld, ai_1i, ai_2i, ai_2l, ai_cn, ai_j, ai_set, ai_set2, ai_nl, ai_rs, ai_sm, Value.category, hk0, hk1, lits, litb, litm, litm2, List.getElem?_cons_zero, List.getElem?_cons_succ, or_n0, bit_r, fi0, fi1, fi2, fi3, nI_toInt, nI_add, pk_mul, nI_leI, nI_ltI, nI_eq, pk_sub, ib_nI, nI_clamp, va_up_self, va_up_ne, va_up_up, va_up_comm, pk_us, pk_un, upd_up, updL_up, pk_uLs, pk_uLn, b01_1, b01_0, b01_1s, b01_0s, or_b]
    exact this
  | succ r ih =>
    intro i X hi h0 hQ
    have := ih (i + 1) (va_up X 24 (upd (X 24) i (nI 0))) (by omega) (fun q hq => by
      by_cases e : q = i
      · subst e; simp [va_up, upd]
      · simp only [va_up_self, pk_un e]; exact h0 q (by omega)) (fun h hh => by
      have := hQ h hh
      simp (disch := omega) only [va_up_ne]
      rw [va_up_comm _ _ _ _ _ (show 19 < 24 by omega), va_up_up]
      exact this)
    rw [w28_58]
    simp (disch := omega) [w28_0, w28_1, w28_2, w28_3, w28_5, w28_8, x28_9_19, w28_12, w28_13, w28_14, w28_15, x28_16_19, w28_19, w28_20, w28_21, w28_22, x28_23_19, w28_26, w28_27, w28_28, w28_29, x28_30_19, w28_33, w28_34, w28_35, w28_36, x28_37_19, w28_40, w28_41, w28_42, w28_43, x28_44_19, w28_47, w28_48, w28_49, w28_50, w28_53, w28_56, w28_57, w28_59, w28_61, w28_64, x28_65_19, w28_68, w28_69, w28_70, w28_71, w28_74, w28_77, w28_78, x28_79_19, w28_82, w28_83, x28_84_19, w28_87, w28_88, x28_89_19, w28_92, w28_93, x28_94_19, w28_97, w28_98, x28_99_19, w28_102, rt28, aw_st, ai_cls, ai_len, ai_p, ai_sw, ai_m, ai_c, ai_at, ai_isI, ai_isJ, ai_isA, ai_ld, ai_1i, ai_2i, ai_2l, ai_cn, ai_j, ai_set, ai_set2, ai_nl, ai_rs, ai_sm, Value.category, hk0, hk1, lits, litb, litm, litm2, List.getElem?_cons_zero, List.getElem?_cons_succ, or_n0, bit_r, fi0, fi1, fi2, fi3, nI_toInt, nI_add, pk_mul, nI_leI, nI_ltI, nI_eq, pk_sub, ib_nI, nI_clamp, va_up_self, va_up_ne, va_up_up, va_up_comm, pk_us, pk_un, upd_up, updL_up, pk_uLs, pk_uLn, b01_1, b01_0, b01_1s, b01_0s, or_b, mm24, mu24, show ¬ 64 ≤ i by omega]
    exact this
end PLC
