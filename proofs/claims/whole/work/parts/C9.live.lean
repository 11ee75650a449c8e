/-! A BOOK lived: the class, II -/
section BKD
variable {G : ai_G} {d sl : Nat} {Q : List Value → Nat → Nat → ai_M → Prop} {Y : mY} {X : mX} {P S m : Nat} {B : BL} {l l' k : Nat → Nat → Int32} {F : Nat → Int32} {nm : Nat → List Nat} {t : Nat → Nat} {n : Nat}
theorem plv_up30 {o : Nat} (ho : isHT o) {F' : Nat → Int32} : va_up (plv (va_up X 30 F) o l) 30 F' = plv (va_up X 30 F') o l := by
  have ho' : o = 61 ∨ o = 70 := ho
  funext j
  by_cases e : j = 30
  · subst e; rw [va_up_self, plv_out (by omega), va_up_self]
  · rw [va_up_ne _ _ e]
    unfold plv
    by_cases e1 : j = o
    · subst e1; simp [va_up, e]
    · by_cases e2 : o < j ∧ j ≤ o + 8
      · simp [e1, e2]
      · simp [e1, e2, va_up, e]
/-- what the BOOK remembers -/
def bkF (F F' : Nat → Int32) (r : Int32 × Int32 × Nat × (Nat → Nat → Int32) × Int32 × Int32) : Prop := F' 4 = F 4 ∧ F' 5 = F 5 ∧ F' 6 = r.2.1 ∧ F' 7 = nI r.2.2.1 ∧ F' 8 = r.2.2.2.2.1 ∧ F' 9 = r.2.2.2.2.2
set_option maxHeartbeats 8000000 in
theorem liveLoop_61 (hP : P ≤ 8) (hS : S ≤ 8) (kP : X 47 7 = nI P) (hc : CB X B m) (hB : BB B m P S) (hm : m ≤ 30) : ∀ (r q : Nat) (l l1 : Nat → Nat → Int32) (F : Nat → Int32), q + r = m → LQ l1 l → F 4 = nI m → F 6 = nI 0 → F 7 = nI q → (∀ l2 F', LQ l2 (liveR (cv X 47) P B r q l (F 8) (F 9)).2.2.2.1 → bkF F F' (liveR (cv X 47) P B r q l (F 8) (F 9)) → Q [.int (liveR (cv X 47) P B r q l (F 8) (F 9)).1] 231 sl (mem (plv (va_up X 30 F') 61 l2) Y)) → aw ET G (d + 12) 149 25 [some (.ref 30), some (.ref 61)] [] 231 sl (mem (plv (va_up X 30 F) 61 l1) Y) Q := by
  have ho : isHT 61 := by simp [isHT]
  have h30 : ∀ F l1, plv (va_up X 30 F) 61 l1 30 = F := fun F l1 => by rw [plv_out (by omega), va_up_self]
  intro r
  induction r with
  | zero =>
    intro q l l1 F hq hl h4 h6 h7 hQ
    have := hQ l1 F hl ⟨rfl, rfl, h6, h7, rfl, rfl⟩
    rw [w149_25]
    simp (disch := omega) [x149_26_30, w149_29, x149_30_30, w149_33, w149_74, w149_75, rt149, aw_st, ai_cls, ai_len, ai_p, ai_sw, ai_m, ai_c, ai_at, ai_isI, ai_isJ, ai_isA, ai_ld, ai_1i, ai_2i, ai_2l, ai_cn, ai_j, ai_set, ai_set2, ai_nl, ai_rs, ai_sm, Value.category, hk0, hk1, lits, litb, litm, litm2, List.getElem?_cons_zero, List.getElem?_cons_succ, or_n0, bit_r, fi0, fi1, fi2, fi3, nI_toInt, nI_add, pk_mul, nI_leI, nI_ltI, nI_eq, pk_sub, ib_nI, nI_clamp, va_up_self, va_up_ne, va_up_up, va_up_comm, pk_us, pk_un, upd_up, updL_up, pk_uLs, pk_uLn, b01_1, b01_0, b01_1s, b01_0s, or_b, h30, h4, h7, show ¬ q < m by omega, show m ≤ q by omega]
    exact this
  | succ r ih =>
    intro q l l1 F hq hl h4 h6 h7 hQ
    rw [w149_25]
    simp (disch := omega) [x149_26_30, w149_29, x149_30_30, w149_33, w149_36, w149_37, w149_38, w149_39, x149_40_30, x149_43_30, rt149, aw_st, ai_cls, ai_len, ai_p, ai_sw, ai_m, ai_c, ai_at, ai_isI, ai_isJ, ai_isA, ai_ld, ai_1i, ai_2i, ai_2l, ai_cn, ai_j, ai_set, ai_set2, ai_nl, ai_rs, ai_sm, Value.category, hk0, hk1, lits, litb, litm, litm2, List.getElem?_cons_zero, List.getElem?_cons_succ, or_n0, bit_r, fi0, fi1, fi2, fi3, nI_toInt, nI_add, pk_mul, nI_leI, nI_ltI, nI_eq, pk_sub, ib_nI, nI_clamp, va_up_self, va_up_ne, va_up_up, va_up_comm, pk_us, pk_un, upd_up, updL_up, pk_uLs, pk_uLn, b01_1, b01_0, b01_1s, b01_0s, or_b, h30, h4, h7, show q < m by omega, show ¬ m ≤ q by omega]
    refine liveLine_61 (d := d) hP hS kP hc hB (by omega) hm hl (fun l2 hl2 F' f8 f9 ff => ?_)
    have es : liveR (cv X 47) P B (r + 1) q l (F 8) (F 9) = if (liveS (cv X 47) P (B q) l).1 = nI 0 then liveR (cv X 47) P B r (q + 1) (liveS (cv X 47) P (B q) l).2.1 (F 8 + (liveS (cv X 47) P (B q) l).2.2.1) (F 9 + (liveS (cv X 47) P (B q) l).2.2.2) else (nI q, (liveS (cv X 47) P (B q) l).1, q, l, F 8, F 9) := rfl
    rw [es] at hQ
    by_cases z : (liveS (cv X 47) P (B q) l).1 = nI 0
    · rw [if_pos z] at hQ
      have e7 : F' 7 = nI q := by rw [ff 7 (by omega) (by omega)]; exact h7
      have := ih (q + 1) (liveS (cv X 47) P (B q) l).2.1 l2 (upd (upd F' 6 (nI 0)) 7 (nI (q + 1))) (by omega) hl2 (by simp [upd]; rw [ff 4 (by omega) (by omega)]; exact h4) (by simp [upd]) (by simp [upd]) (fun l3 F3 hl3 hF3 => by
        have r8 : upd (upd F' 6 (nI 0)) 7 (nI (q + 1)) 8 = F 8 + (liveS (cv X 47) P (B q) l).2.2.1 := by simp [upd]; exact f8
        have r9 : upd (upd F' 6 (nI 0)) 7 (nI (q + 1)) 9 = F 9 + (liveS (cv X 47) P (B q) l).2.2.2 := by simp [upd]; exact f9
        rw [r8, r9] at hl3 hF3 ⊢
        refine hQ l3 F3 hl3 ?_
        obtain ⟨a, b, c, e, f, g⟩ := hF3
        refine ⟨?_, ?_, c, e, f, g⟩
        · rw [a]; simp [upd]; exact ff 4 (by omega) (by omega)
        · rw [b]; simp [upd]; exact ff 5 (by omega) (by omega))
      simp (disch := omega) [x149_46, w149_49, x149_50_30, w149_53, w149_56, x149_57_30, w149_60, w149_61, w149_62, x149_63_30, w149_66, w149_67, x149_68, w149_71, rt149, aw_st, ai_cls, ai_len, ai_p, ai_sw, ai_m, ai_c, ai_at, ai_isI, ai_isJ, ai_isA, ai_ld, ai_1i, ai_2i, ai_2l, ai_cn, ai_j, ai_set, ai_set2, ai_nl, ai_rs, ai_sm, Value.category, hk0, hk1, lits, litb, litm, litm2, List.getElem?_cons_zero, List.getElem?_cons_succ, or_n0, bit_r, fi0, fi1, fi2, fi3, nI_toInt, nI_add, pk_mul, nI_leI, nI_ltI, nI_eq, pk_sub, ib_nI, nI_clamp, va_up_self, va_up_ne, va_up_up, va_up_comm, pk_us, pk_un, upd_up, updL_up, pk_uLs, pk_uLn, b01_1, b01_0, b01_1s, b01_0s, or_b, h30, plv_up30 ho, z, e7]
      exact this
    · rw [if_neg z] at hQ
      have hs : (liveS (cv X 47) P (B q) l).2.1 = l ∧ (liveS (cv X 47) P (B q) l).2.2 = (nI 0, nI 0) := by
        revert z
        unfold liveS
        (repeat' split) <;> intro z <;> first | exact ⟨rfl, rfl⟩ | exact absurd rfl z
      rw [hs.2] at f8 f9
      rw [hs.1] at hl2
      have := hQ l2 (upd F' 6 (liveS (cv X 47) P (B q) l).1) hl2 ⟨by simp [upd]; exact ff 4 (by omega) (by omega), by simp [upd]; exact ff 5 (by omega) (by omega), by simp [upd], by simp [upd]; rw [ff 7 (by omega) (by omega)]; exact h7, by simp [upd]; rw [f8]; exact add0 _, by simp [upd]; rw [f9]; exact add0 _⟩
      have e7 : F' 7 = nI q := by rw [ff 7 (by omega) (by omega)]; exact h7
      simp (disch := omega) [x149_46, w149_49, x149_50_30, w149_53, w149_56, x149_57_30, w149_60, rt149, aw_st, ai_cls, ai_len, ai_p, ai_sw, ai_m, ai_c, ai_at, ai_isI, ai_isJ, ai_isA, ai_ld, ai_1i, ai_2i, ai_2l, ai_cn, ai_j, ai_set, ai_set2, ai_nl, ai_rs, ai_sm, Value.category, hk0, hk1, lits, litb, litm, litm2, List.getElem?_cons_zero, List.getElem?_cons_succ, or_n0, bit_r, fi0, fi1, fi2, fi3, nI_toInt, nI_add, pk_mul, nI_leI, nI_ltI, nI_eq, pk_sub, ib_nI, nI_clamp, va_up_self, va_up_ne, va_up_up, va_up_comm, pk_us, pk_un, upd_up, updL_up, pk_uLs, pk_uLn, b01_1, b01_0, b01_1s, b01_0s, or_b, h30, plv_up30 ho, z, e7]
      exact this
set_option maxHeartbeats 8000000 in
theorem live_61 (hP : P ≤ 8) (hS : S ≤ 8) (kP : X 47 7 = nI P) (hc : CB X B m) (hB : BB B m P S) (hm : m ≤ 30) (hF : F 4 = nI m) (hQ : ∀ l2 F', LQ l2 (liveR (cv X 47) P B m 0 l (nI 0) (nI 0)).2.2.2.1 → bkF (upd F 5 (nI 1)) F' (liveR (cv X 47) P B m 0 l (nI 0) (nI 0)) → Q [.int (liveR (cv X 47) P B m 0 l (nI 0) (nI 0)).1] 231 sl (mem (plv (va_up X 30 F') 61 l2) Y)) : aw ET G (d + 12) 149 0 [some (.ref 30), some (.ref 61)] [] 231 sl (mem (plv (va_up X 30 F) 61 l) Y) Q := by
  have ho : isHT 61 := by simp [isHT]
  have h30 : ∀ F l1, plv (va_up X 30 F) 61 l1 30 = F := fun F l1 => by rw [plv_out (by omega), va_up_self]
  have := liveLoop_61 (G := G) (d := d) (sl := sl) (Q := Q) (Y := Y) hP hS kP hc hB hm m 0 l l (upd (upd (upd (upd (upd F 5 (nI 1)) 6 (nI 0)) 8 (nI 0)) 9 (nI 0)) 7 (nI 0)) (by omega) (LQ.rfl' l) (by simp [upd]; exact hF) (by simp [upd]) (by simp [upd]) (fun l2 F' hl2 hF2 => by
    have r8 : upd (upd (upd (upd (upd F 5 (nI 1)) 6 (nI 0)) 8 (nI 0)) 9 (nI 0)) 7 (nI 0) 8 = nI 0 := by simp [upd]
    have r9 : upd (upd (upd (upd (upd F 5 (nI 1)) 6 (nI 0)) 8 (nI 0)) 9 (nI 0)) 7 (nI 0) 9 = nI 0 := by simp [upd]
    rw [r8, r9] at hl2 hF2 ⊢
    refine hQ l2 F' hl2 ?_
    obtain ⟨a, b, c, e, f, g⟩ := hF2
    refine ⟨?_, ?_, c, e, f, g⟩
    · rw [a]; simp [upd]
    · rw [b]; simp [upd])
  simp (disch := omega) [w149_0, w149_1, x149_2 (v := nI 0) (Or.inl rfl), x149_2 (v := nI 1) (Or.inr rfl), w149_5, w149_6, x149_7, w149_10, w149_11, x149_12, w149_15, w149_16, x149_17, w149_20, w149_21, x149_22, rt149, aw_st, ai_cls, ai_len, ai_p, ai_sw, ai_m, ai_c, ai_at, ai_isI, ai_isJ, ai_isA, ai_ld, ai_1i, ai_2i, ai_2l, ai_cn, ai_j, ai_set, ai_set2, ai_nl, ai_rs, ai_sm, Value.category, hk0, hk1, lits, litb, litm, litm2, List.getElem?_cons_zero, List.getElem?_cons_succ, or_n0, bit_r, fi0, fi1, fi2, fi3, nI_toInt, nI_add, pk_mul, nI_leI, nI_ltI, nI_eq, pk_sub, ib_nI, nI_clamp, va_up_self, va_up_ne, va_up_up, va_up_comm, pk_us, pk_un, upd_up, updL_up, pk_uLs, pk_uLn, b01_1, b01_0, b01_1s, b01_0s, or_b, h30, plv_up30 ho]
  exact this
set_option maxHeartbeats 8000000 in
theorem liveLoop_70 (hP : P ≤ 8) (hS : S ≤ 8) (kP : X 47 7 = nI P) (hc : CB X B m) (hB : BB B m P S) (hm : m ≤ 30) : ∀ (r q : Nat) (l l1 : Nat → Nat → Int32) (F : Nat → Int32), q + r = m → LQ l1 l → F 4 = nI m → F 6 = nI 0 → F 7 = nI q → (∀ l2 F', LQ l2 (liveR (cv X 47) P B r q l (F 8) (F 9)).2.2.2.1 → bkF F F' (liveR (cv X 47) P B r q l (F 8) (F 9)) → Q [.int (liveR (cv X 47) P B r q l (F 8) (F 9)).1] 231 sl (mem (plv (va_up X 30 F') 70 l2) Y)) → aw ET G (d + 12) 149 25 [some (.ref 30), some (.ref 70)] [] 231 sl (mem (plv (va_up X 30 F) 70 l1) Y) Q := by
  have ho : isHT 70 := by simp [isHT]
  have h30 : ∀ F l1, plv (va_up X 30 F) 70 l1 30 = F := fun F l1 => by rw [plv_out (by omega), va_up_self]
  intro r
  induction r with
  | zero =>
    intro q l l1 F hq hl h4 h6 h7 hQ
    have := hQ l1 F hl ⟨rfl, rfl, h6, h7, rfl, rfl⟩
    rw [w149_25]
    simp (disch := omega) [x149_26_30, w149_29, x149_30_30, w149_33, w149_74, w149_75, rt149, aw_st, ai_cls, ai_len, ai_p, ai_sw, ai_m, ai_c, ai_at, ai_isI, ai_isJ, ai_isA, ai_ld, ai_1i, ai_2i, ai_2l, ai_cn, ai_j, ai_set, ai_set2, ai_nl, ai_rs, ai_sm, Value.category, hk0, hk1, lits, litb, litm, litm2, List.getElem?_cons_zero, List.getElem?_cons_succ, or_n0, bit_r, fi0, fi1, fi2, fi3, nI_toInt, nI_add, pk_mul, nI_leI, nI_ltI, nI_eq, pk_sub, ib_nI, nI_clamp, va_up_self, va_up_ne, va_up_up, va_up_comm, pk_us, pk_un, upd_up, updL_up, pk_uLs, pk_uLn, b01_1, b01_0, b01_1s, b01_0s, or_b, h30, h4, h7, show ¬ q < m by omega, show m ≤ q by omega]
    exact this
  | succ r ih =>
    intro q l l1 F hq hl h4 h6 h7 hQ
    rw [w149_25]
    simp (disch := omega) [x149_26_30, w149_29, x149_30_30, w149_33, w149_36, w149_37, w149_38, w149_39, x149_40_30, x149_43_30, rt149, aw_st, ai_cls, ai_len, ai_p, ai_sw, ai_m, ai_c, ai_at, ai_isI, ai_isJ, ai_isA, ai_ld, ai_1i, ai_2i, ai_2l, ai_cn, ai_j, ai_set, ai_set2, ai_nl, ai_rs, ai_sm, Value.category, hk0, hk1, lits, litb, litm, litm2, List.getElem?_cons_zero, List.getElem?_cons_succ, or_n0, bit_r, fi0, fi1, fi2, fi3, nI_toInt, nI_add, pk_mul, nI_leI, nI_ltI, nI_eq, pk_sub, ib_nI, nI_clamp, va_up_self, va_up_ne, va_up_up, va_up_comm, pk_us, pk_un, upd_up, updL_up, pk_uLs, pk_uLn, b01_1, b01_0, b01_1s, b01_0s, or_b, h30, h4, h7, show q < m by omega, show ¬ m ≤ q by omega]
    refine liveLine_70 (d := d) hP hS kP hc hB (by omega) hm hl (fun l2 hl2 F' f8 f9 ff => ?_)
    have es : liveR (cv X 47) P B (r + 1) q l (F 8) (F 9) = if (liveS (cv X 47) P (B q) l).1 = nI 0 then liveR (cv X 47) P B r (q + 1) (liveS (cv X 47) P (B q) l).2.1 (F 8 + (liveS (cv X 47) P (B q) l).2.2.1) (F 9 + (liveS (cv X 47) P (B q) l).2.2.2) else (nI q, (liveS (cv X 47) P (B q) l).1, q, l, F 8, F 9) := rfl
    rw [es] at hQ
    by_cases z : (liveS (cv X 47) P (B q) l).1 = nI 0
    · rw [if_pos z] at hQ
      have e7 : F' 7 = nI q := by rw [ff 7 (by omega) (by omega)]; exact h7
      have := ih (q + 1) (liveS (cv X 47) P (B q) l).2.1 l2 (upd (upd F' 6 (nI 0)) 7 (nI (q + 1))) (by omega) hl2 (by simp [upd]; rw [ff 4 (by omega) (by omega)]; exact h4) (by simp [upd]) (by simp [upd]) (fun l3 F3 hl3 hF3 => by
        have r8 : upd (upd F' 6 (nI 0)) 7 (nI (q + 1)) 8 = F 8 + (liveS (cv X 47) P (B q) l).2.2.1 := by simp [upd]; exact f8
        have r9 : upd (upd F' 6 (nI 0)) 7 (nI (q + 1)) 9 = F 9 + (liveS (cv X 47) P (B q) l).2.2.2 := by simp [upd]; exact f9
        rw [r8, r9] at hl3 hF3 ⊢
        refine hQ l3 F3 hl3 ?_
        obtain ⟨a, b, c, e, f, g⟩ := hF3
        refine ⟨?_, ?_, c, e, f, g⟩
        · rw [a]; simp [upd]; exact ff 4 (by omega) (by omega)
        · rw [b]; simp [upd]; exact ff 5 (by omega) (by omega))
      simp (disch := omega) [x149_46, w149_49, x149_50_30, w149_53, w149_56, x149_57_30, w149_60, w149_61, w149_62, x149_63_30, w149_66, w149_67, x149_68, w149_71, rt149, aw_st, ai_cls, ai_len, ai_p, ai_sw, ai_m, ai_c, ai_at, ai_isI, ai_isJ, ai_isA, ai_ld, ai_1i, ai_2i, ai_2l, ai_cn, ai_j, ai_set, ai_set2, ai_nl, ai_rs, ai_sm, Value.category, hk0, hk1, lits, litb, litm, litm2, List.getElem?_cons_zero, List.getElem?_cons_succ, or_n0, bit_r, fi0, fi1, fi2, fi3, nI_toInt, nI_add, pk_mul, nI_leI, nI_ltI, nI_eq, pk_sub, ib_nI, nI_clamp, va_up_self, va_up_ne, va_up_up, va_up_comm, pk_us, pk_un, upd_up, updL_up, pk_uLs, pk_uLn, b01_1, b01_0, b01_1s, b01_0s, or_b, h30, plv_up30 ho, z, e7]
      exact this
    · rw [if_neg z] at hQ
      have hs : (liveS (cv X 47) P (B q) l).2.1 = l ∧ (liveS (cv X 47) P (B q) l).2.2 = (nI 0, nI 0) := by
        revert z
        unfold liveS
        (repeat' split) <;> intro z <;> first | exact ⟨rfl, rfl⟩ | exact absurd rfl z
      rw [hs.2] at f8 f9
      rw [hs.1] at hl2
      have := hQ l2 (upd F' 6 (liveS (cv X 47) P (B q) l).1) hl2 ⟨by simp [upd]; exact ff 4 (by omega) (by omega), by simp [upd]; exact ff 5 (by omega) (by omega), by simp [upd], by simp [upd]; rw [ff 7 (by omega) (by omega)]; exact h7, by simp [upd]; rw [f8]; exact add0 _, by simp [upd]; rw [f9]; exact add0 _⟩
      have e7 : F' 7 = nI q := by rw [ff 7 (by omega) (by omega)]; exact h7
      simp (disch := omega) [x149_46, w149_49, x149_50_30, w149_53, w149_56, x149_57_30, w149_60, rt149, aw_st, ai_cls, ai_len, ai_p, ai_sw, ai_m, ai_c, ai_at, ai_isI, ai_isJ, ai_isA, ai_ld, ai_1i, ai_2i, ai_2l, ai_cn, ai_j, ai_set, ai_set2, ai_nl, ai_rs, ai_sm, Value.category, hk0, hk1, lits, litb, litm, litm2, List.getElem?_cons_zero, List.getElem?_cons_succ, or_n0, bit_r, fi0, fi1, fi2, fi3, nI_toInt, nI_add, pk_mul, nI_leI, nI_ltI, nI_eq, pk_sub, ib_nI, nI_clamp, va_up_self, va_up_ne, va_up_up, va_up_comm, pk_us, pk_un, upd_up, updL_up, pk_uLs, pk_uLn, b01_1, b01_0, b01_1s, b01_0s, or_b, h30, plv_up30 ho, z, e7]
      exact this
set_option maxHeartbeats 8000000 in
theorem live_70 (hP : P ≤ 8) (hS : S ≤ 8) (kP : X 47 7 = nI P) (hc : CB X B m) (hB : BB B m P S) (hm : m ≤ 30) (hF : F 4 = nI m) (hQ : ∀ l2 F', LQ l2 (liveR (cv X 47) P B m 0 l (nI 0) (nI 0)).2.2.2.1 → bkF (upd F 5 (nI 1)) F' (liveR (cv X 47) P B m 0 l (nI 0) (nI 0)) → Q [.int (liveR (cv X 47) P B m 0 l (nI 0) (nI 0)).1] 231 sl (mem (plv (va_up X 30 F') 70 l2) Y)) : aw ET G (d + 12) 149 0 [some (.ref 30), some (.ref 70)] [] 231 sl (mem (plv (va_up X 30 F) 70 l) Y) Q := by
  have ho : isHT 70 := by simp [isHT]
  have h30 : ∀ F l1, plv (va_up X 30 F) 70 l1 30 = F := fun F l1 => by rw [plv_out (by omega), va_up_self]
  have := liveLoop_70 (G := G) (d := d) (sl := sl) (Q := Q) (Y := Y) hP hS kP hc hB hm m 0 l l (upd (upd (upd (upd (upd F 5 (nI 1)) 6 (nI 0)) 8 (nI 0)) 9 (nI 0)) 7 (nI 0)) (by omega) (LQ.rfl' l) (by simp [upd]; exact hF) (by simp [upd]) (by simp [upd]) (fun l2 F' hl2 hF2 => by
    have r8 : upd (upd (upd (upd (upd F 5 (nI 1)) 6 (nI 0)) 8 (nI 0)) 9 (nI 0)) 7 (nI 0) 8 = nI 0 := by simp [upd]
    have r9 : upd (upd (upd (upd (upd F 5 (nI 1)) 6 (nI 0)) 8 (nI 0)) 9 (nI 0)) 7 (nI 0) 9 = nI 0 := by simp [upd]
    rw [r8, r9] at hl2 hF2 ⊢
    refine hQ l2 F' hl2 ?_
    obtain ⟨a, b, c, e, f, g⟩ := hF2
    refine ⟨?_, ?_, c, e, f, g⟩
    · rw [a]; simp [upd]
    · rw [b]; simp [upd])
  simp (disch := omega) [w149_0, w149_1, x149_2 (v := nI 0) (Or.inl rfl), x149_2 (v := nI 1) (Or.inr rfl), w149_5, w149_6, x149_7, w149_10, w149_11, x149_12, w149_15, w149_16, x149_17, w149_20, w149_21, x149_22, rt149, aw_st, ai_cls, ai_len, ai_p, ai_sw, ai_m, ai_c, ai_at, ai_isI, ai_isJ, ai_isA, ai_ld, ai_1i, ai_2i, ai_2l, ai_cn, ai_j, ai_set, ai_set2, ai_nl, ai_rs, ai_sm, Value.category, hk0, hk1, lits, litb, litm, litm2, List.getElem?_cons_zero, List.getElem?_cons_succ, or_n0, bit_r, fi0, fi1, fi2, fi3, nI_toInt, nI_add, pk_mul, nI_leI, nI_ltI, nI_eq, pk_sub, ib_nI, nI_clamp, va_up_self, va_up_ne, va_up_up, va_up_comm, pk_us, pk_un, upd_up, updL_up, pk_uLs, pk_uLn, b01_1, b01_0, b01_1s, b01_0s, or_b, h30, plv_up30 ho]
  exact this
def toldF (F : Nat → Int32) (x : Int32) : Int32 := if F 5 = nI 0 then mi1 else if x = nI 0 then F 6 else if x = nI 1 then F 7 else if x = nI 2 then F 8 else if x = nI 3 then F 9 else mi1
theorem told_eq {x : Int32} : aw ET G d 153 0 [some (.ref 30), some (.int x)] [] 231 sl (mem X Y) Q = Q [.int (toldF (X 30) x)] 231 sl (mem X Y) := by
  unfold toldF
  by_cases h5 : X 30 5 = nI 0
  · simp (disch := omega) [w153_0, x153_1_30, w153_4, w153_7, w153_8, w153_9, w153_10, w153_40, x153_41_30, w153_44, w153_45, x153_46_30, w153_49, w153_50, x153_51_30, w153_54, w153_55, x153_56_30, w153_59, w153_60, w153_61, rt153, aw_st, ai_cls, ai_len, ai_p, ai_sw, ai_m, ai_c, ai_at, ai_isI, ai_isJ, ai_isA, ai_ld, ai_1i, ai_2i, ai_2l, ai_cn, ai_j, ai_set, ai_set2, ai_nl, ai_rs, ai_sm, Value.category, hk0, hk1, lits, litb, litm, litm2, List.getElem?_cons_zero, List.getElem?_cons_succ, or_n0, bit_r, fi0, fi1, fi2, fi3, nI_toInt, nI_add, pk_mul, nI_leI, nI_ltI, nI_eq, pk_sub, ib_nI, nI_clamp, va_up_self, va_up_ne, va_up_up, va_up_comm, pk_us, pk_un, upd_up, updL_up, pk_uLs, pk_uLn, b01_1, b01_0, b01_1s, b01_0s, or_b, h5]
  · by_cases x0 : x = nI 0
    · subst x0; simp (disch := omega) [w153_0, x153_1_30, w153_4, w153_7, w153_8, w153_9, w153_10, w153_40, x153_41_30, w153_44, w153_45, x153_46_30, w153_49, w153_50, x153_51_30, w153_54, w153_55, x153_56_30, w153_59, w153_60, w153_61, rt153, aw_st, ai_cls, ai_len, ai_p, ai_sw, ai_m, ai_c, ai_at, ai_isI, ai_isJ, ai_isA, ai_ld, ai_1i, ai_2i, ai_2l, ai_cn, ai_j, ai_set, ai_set2, ai_nl, ai_rs, ai_sm, Value.category, hk0, hk1, lits, litb, litm, litm2, List.getElem?_cons_zero, List.getElem?_cons_succ, or_n0, bit_r, fi0, fi1, fi2, fi3, nI_toInt, nI_add, pk_mul, nI_leI, nI_ltI, nI_eq, pk_sub, ib_nI, nI_clamp, va_up_self, va_up_ne, va_up_up, va_up_comm, pk_us, pk_un, upd_up, updL_up, pk_uLs, pk_uLn, b01_1, b01_0, b01_1s, b01_0s, or_b, h5]
    · by_cases x1 : x = nI 1
      · subst x1; simp (disch := omega) [w153_0, x153_1_30, w153_4, w153_7, w153_8, w153_9, w153_10, w153_40, x153_41_30, w153_44, w153_45, x153_46_30, w153_49, w153_50, x153_51_30, w153_54, w153_55, x153_56_30, w153_59, w153_60, w153_61, rt153, aw_st, ai_cls, ai_len, ai_p, ai_sw, ai_m, ai_c, ai_at, ai_isI, ai_isJ, ai_isA, ai_ld, ai_1i, ai_2i, ai_2l, ai_cn, ai_j, ai_set, ai_set2, ai_nl, ai_rs, ai_sm, Value.category, hk0, hk1, lits, litb, litm, litm2, List.getElem?_cons_zero, List.getElem?_cons_succ, or_n0, bit_r, fi0, fi1, fi2, fi3, nI_toInt, nI_add, pk_mul, nI_leI, nI_ltI, nI_eq, pk_sub, ib_nI, nI_clamp, va_up_self, va_up_ne, va_up_up, va_up_comm, pk_us, pk_un, upd_up, updL_up, pk_uLs, pk_uLn, b01_1, b01_0, b01_1s, b01_0s, or_b, h5]
      · by_cases x2 : x = nI 2
        · subst x2; simp (disch := omega) [w153_0, x153_1_30, w153_4, w153_7, w153_8, w153_9, w153_10, w153_40, x153_41_30, w153_44, w153_45, x153_46_30, w153_49, w153_50, x153_51_30, w153_54, w153_55, x153_56_30, w153_59, w153_60, w153_61, rt153, aw_st, ai_cls, ai_len, ai_p, ai_sw, ai_m, ai_c, ai_at, ai_isI, ai_isJ, ai_isA, ai_ld, ai_1i, ai_2i, ai_2l, ai_cn, ai_j, ai_set, ai_set2, ai_nl, ai_rs, ai_sm, Value.category, hk0, hk1, lits, litb, litm, litm2, List.getElem?_cons_zero, List.getElem?_cons_succ, or_n0, bit_r, fi0, fi1, fi2, fi3, nI_toInt, nI_add, pk_mul, nI_leI, nI_ltI, nI_eq, pk_sub, ib_nI, nI_clamp, va_up_self, va_up_ne, va_up_up, va_up_comm, pk_us, pk_un, upd_up, updL_up, pk_uLs, pk_uLn, b01_1, b01_0, b01_1s, b01_0s, or_b, h5]
        · by_cases x3 : x = nI 3
          · subst x3; simp (disch := omega) [w153_0, x153_1_30, w153_4, w153_7, w153_8, w153_9, w153_10, w153_40, x153_41_30, w153_44, w153_45, x153_46_30, w153_49, w153_50, x153_51_30, w153_54, w153_55, x153_56_30, w153_59, w153_60, w153_61, rt153, aw_st, ai_cls, ai_len, ai_p, ai_sw, ai_m, ai_c, ai_at, ai_isI, ai_isJ, ai_isA, ai_ld, ai_1i, ai_2i, ai_2l, ai_cn, ai_j, ai_set, ai_set2, ai_nl, ai_rs, ai_sm, Value.category, hk0, hk1, lits, litb, litm, litm2, List.getElem?_cons_zero, List.getElem?_cons_succ, or_n0, bit_r, fi0, fi1, fi2, fi3, nI_toInt, nI_add, pk_mul, nI_leI, nI_ltI, nI_eq, pk_sub, ib_nI, nI_clamp, va_up_self, va_up_ne, va_up_up, va_up_comm, pk_us, pk_un, upd_up, updL_up, pk_uLs, pk_uLn, b01_1, b01_0, b01_1s, b01_0s, or_b, h5]
          · simp (disch := omega) [w153_0, x153_1_30, w153_4, w153_7, w153_8, w153_9, w153_10, w153_40, x153_41_30, w153_44, w153_45, x153_46_30, w153_49, w153_50, x153_51_30, w153_54, w153_55, x153_56_30, w153_59, w153_60, w153_61, rt153, aw_st, ai_cls, ai_len, ai_p, ai_sw, ai_m, ai_c, ai_at, ai_isI, ai_isJ, ai_isA, ai_ld, ai_1i, ai_2i, ai_2l, ai_cn, ai_j, ai_set, ai_set2, ai_nl, ai_rs, ai_sm, Value.category, hk0, hk1, lits, litb, litm, litm2, List.getElem?_cons_zero, List.getElem?_cons_succ, or_n0, bit_r, fi0, fi1, fi2, fi3, nI_toInt, nI_add, pk_mul, nI_leI, nI_ltI, nI_eq, pk_sub, ib_nI, nI_clamp, va_up_self, va_up_ne, va_up_up, va_up_comm, pk_us, pk_un, upd_up, updL_up, pk_uLs, pk_uLn, b01_1, b01_0, b01_1s, b01_0s, or_b, h5, x0, x1, x2, x3]
            intro a b
            exfalso
            have h0 : (nI 0).toInt = 0 := by decide
            have h1 : (nI 1).toInt = 1 := by decide
            have h2 : (nI 2).toInt = 2 := by decide
            have h3 : (nI 3).toInt = 3 := by decide
            have q0 : ¬ x.toInt = 0 := fun e => x0 (Int32.toInt_inj.mp (by rw [e, h0]))
            have q1 : ¬ x.toInt = 1 := fun e => x1 (Int32.toInt_inj.mp (by rw [e, h1]))
            have q2 : ¬ x.toInt = 2 := fun e => x2 (Int32.toInt_inj.mp (by rw [e, h2]))
            have q3 : ¬ x.toInt = 3 := fun e => x3 (Int32.toInt_inj.mp (by rw [e, h3]))
            omega
theorem tbooked_eq {x : Int32} : aw ET G (d + 1) 154 0 [some (.ref 0), some (.int x)] [] 231 sl (mem X Y) Q = Q [.int (toldF (X 30) x)] 231 sl (mem X Y) := by
  simp (disch := omega) [w154_0, x154_1_0, w154_4, x154_5_30, w154_8, rt154, aw_st, ai_cls, ai_len, ai_p, ai_sw, ai_m, ai_c, ai_at, ai_isI, ai_isJ, ai_isA, ai_ld, ai_1i, ai_2i, ai_2l, ai_cn, ai_j, ai_set, ai_set2, ai_nl, ai_rs, ai_sm, Value.category, hk0, hk1, lits, litb, litm, litm2, List.getElem?_cons_zero, List.getElem?_cons_succ, or_n0, bit_r, fi0, fi1, fi2, fi3, nI_toInt, nI_add, pk_mul, nI_leI, nI_ltI, nI_eq, pk_sub, ib_nI, nI_clamp, va_up_self, va_up_ne, va_up_up, va_up_comm, pk_us, pk_un, upd_up, updL_up, pk_uLs, pk_uLn, b01_1, b01_0, b01_1s, b01_0s, or_b, told_eq]
end BKD
