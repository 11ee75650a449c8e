/-! THE CLASS'S OWN METHODS, IV -/
section TWQ
variable {G : ai_G} {d sl : Nat} {Q : List Value → Nat → Nat → ai_M → Prop} {P S : Nat} {Y : mY} {X : mX}
set_option maxHeartbeats 4000000 in
theorem tcount_eq {x : Int32} : aw ET G d 172 0 [some (.ref 0), some (.int x)] [] 231 sl (mem X Y) Q = Q [.int (cntV (cv X 47) (X 0 15) x)] 231 sl (mem X Y) := by
  unfold cntV
  cases hx : pI 5 x
  · have e : x.toInt < 0 ∨ 4 < x.toInt := by have := pI_out (by omega) hx; omega
    have e4 : ¬ x = nI 4 := fun q => by rw [q] at hx; exact absurd hx (by decide)
    have h4 : pI 4 x = false := by
      cases h : pI 4 x
      · rfl
      · obtain ⟨c, hc, rfl⟩ := (pI_nat (by omega)).mp h
        rw [pI_nI (show c < 5 by omega) (by omega)] at hx
        cases hx
    simp (disch := omega) [w172_0, w172_1, w172_36, x172_37_0, x172_40_55, x172_43_47, w172_46, w172_47, x172_48_0, x172_51_55, x172_54_47, w172_57, w172_58, x172_59_0, x172_62_55, x172_65_47, w172_68, w172_69, x172_70_0, x172_73_55, x172_76_47, w172_79, w172_80, x172_81_0, w172_84, w172_85, w172_86, rt172, aw_st, ai_cls, ai_len, ai_p, ai_sw, ai_m, ai_c, ai_at, ai_isI, ai_isJ, ai_isA, ai_ld, ai_1i, ai_2i, ai_2l, ai_cn, ai_j, ai_set, ai_set2, ai_nl, ai_rs, ai_sm, Value.category, hk0, hk1, lits, litb, litm, litm2, List.getElem?_cons_zero, List.getElem?_cons_succ, or_n0, bit_r, fi0, fi1, fi2, fi3, nI_toInt, nI_add, pk_mul, nI_leI, nI_ltI, nI_eq, pk_sub, ib_nI, nI_clamp, va_up_self, va_up_ne, va_up_up, va_up_comm, pk_us, pk_un, upd_up, updL_up, pk_uLs, pk_uLn, b01_1, b01_0, b01_1s, b01_0s, or_b, e, e4, h4]
  · obtain ⟨c, hc, rfl⟩ := (pI_nat (by omega)).mp hx
    have pin : ∀ c, c < 4 → pI 4 (nI c) = true := fun c h => pI_nI h (by omega)
    rcases (show c = 0 ∨ c = 1 ∨ c = 2 ∨ c = 3 ∨ c = 4 by omega) with rfl | rfl | rfl | rfl | rfl <;> simp (disch := omega) [w172_0, w172_1, w172_36, x172_37_0, x172_40_55, x172_43_47, w172_46, w172_47, x172_48_0, x172_51_55, x172_54_47, w172_57, w172_58, x172_59_0, x172_62_55, x172_65_47, w172_68, w172_69, x172_70_0, x172_73_55, x172_76_47, w172_79, w172_80, x172_81_0, w172_84, w172_85, w172_86, rt172, aw_st, ai_cls, ai_len, ai_p, ai_sw, ai_m, ai_c, ai_at, ai_isI, ai_isJ, ai_isA, ai_ld, ai_1i, ai_2i, ai_2l, ai_cn, ai_j, ai_set, ai_set2, ai_nl, ai_rs, ai_sm, Value.category, hk0, hk1, lits, litb, litm, litm2, List.getElem?_cons_zero, List.getElem?_cons_succ, or_n0, bit_r, fi0, fi1, fi2, fi3, nI_toInt, nI_add, pk_mul, nI_leI, nI_ltI, nI_eq, pk_sub, ib_nI, nI_clamp, va_up_self, va_up_ne, va_up_up, va_up_comm, pk_us, pk_un, upd_up, updL_up, pk_uLs, pk_uLn, b01_1, b01_0, b01_1s, b01_0s, or_b, pin, iN_nI, cv]
end TWQ
