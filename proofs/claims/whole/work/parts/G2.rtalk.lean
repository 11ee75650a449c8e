/-! TALKED: the reference, its rows -/
section RTO
variable {G : ai_G} {d sl : Nat} {Q : List Value → Nat → Nat → ai_M → Prop} {Y : mY} {X : mX} {P : Nat} {t : Nat → Nat}
/-- how many talks there are with a code below -/
def vct (P : Nat) : Nat → Nat
  | 0 => 0
  | c + 1 => vct P c + (if vlC P c = true then 1 else 0)
theorem vct_le {a b : Nat} (h : a ≤ b) : vct P a ≤ vct P b := by
  induction b with
  | zero => have : a = 0 := by omega
            subst this; exact Nat.le_refl _
  | succ b ih =>
    by_cases e : a = b + 1
    · subst e; exact Nat.le_refl _
    · have := ih (by omega)
      show vct P a ≤ vct P b + _
      omega
theorem vct_lt {a b : Nat} (h : a < b) (hv : vlC P a = true) : vct P a < vct P b := by
  have h1 := vct_le (P := P) (show a + 1 ≤ b by omega)
  have h2 : vct P (a + 1) = vct P a + 1 := by show vct P a + (if vlC P a = true then 1 else 0) = _; rw [if_pos hv]
  omega
theorem vct_90 (hP6 : P ≤ 6) : vct P (3 * (P * P)) ≤ 90 := by
  have h : (List.range 7).all (fun P => decide (vct P (3 * (P * P)) ≤ 90)) = true := by decide +kernel
  have := List.all_eq_true.mp h P (List.mem_range.mpr (by omega))
  exact of_decide_eq_true this
/-- the rows of talks, as far as they are filled -/
def RWS (X : mX) (P n : Nat) : Prop := X 199 45 = nI (vct P n) ∧ ∀ c, c < n → vlC P c = true → X 216 (vct P c) = nI (cdH P c) ∧ X 217 (vct P c) = nI (cdW P c) ∧ X 218 (vct P c) = nI (c % 3 + 1)
/-- what TALKED of the reference leaves as it was -/
def TRG (X X' : mX) : Prop := (∀ j, ¬ j = 199 → ¬ (216 ≤ j ∧ j ≤ 223) → X' j = X j) ∧ ∀ j, ¬ (44 ≤ j ∧ j ≤ 46) → X' 199 j = X 199 j
def TRV (X X' : mX) : Prop := ∀ j, 221 ≤ j → j ≤ 223 → X' j = X j
theorem TRG.rfl' : TRG X X := ⟨fun _ _ _ => rfl, fun _ _ => rfl⟩
theorem TRG.tr {X' X2 : mX} (h : TRG X X') (g : TRG X' X2) : TRG X X2 := ⟨fun j a b => (g.1 j a b).trans (h.1 j a b), fun j a => (g.2 j a).trans (h.2 j a)⟩
set_option maxHeartbeats 8000000 in
theorem bal_fill (hP : 0 < P) (hP6 : P ≤ 6) : ∀ (r p : Nat) (g : Nat → Int32) (X : mX), p + r = P → TB8 (X 200) t → X 219 = g → (∀ q, q < p → g q = balT t q) → (∀ g', (∀ q, q < P → g' q = balT t q) → aw ET G (d + 1) 256 66 [some (.ref 199), some (.int (nI P)), some (.int (nI P)), none, none, none] [] 231 sl (mem (va_up X 219 g') Y) Q) → aw ET G (d + 1) 256 41 [some (.ref 199), some (.int (nI P)), some (.int (nI p)), none, none, none] [] 231 sl (mem X Y) Q := by
  intro r
  induction r with
  | zero =>
    intro p g X hp hT hg hq hQ
    have : p = P := by omega
    subst this
    have := hQ g hq
    rw [← hg, va_id] at this
    rw [w256_41]
    simp (disch := omega) [w256_42, w256_43, rt256, rt256, aw_st, ai_cls, ai_len, ai_p, ai_sw, ai_m, ai_c, ai_at, ai_isI, ai_isJ, ai_isA, ai_ld, ai_1i, ai_2i, ai_2l, ai_cn, ai_j, ai_set, ai_set2, ai_nl, ai_rs, ai_sm, Value.category, hk0, hk1, lits, litb, litm, litm2, List.getElem?_cons_zero, List.getElem?_cons_succ, or_n0, bit_r, fi0, fi1, fi2, fi3, nI_toInt, nI_add, pk_mul, nI_leI, nI_ltI, nI_eq, ib_nI, nI_clamp, va_up_self, va_up_ne, va_up_up, va_up_comm, pk_us, pk_un, upd_up, updL_up, pk_uLs, pk_uLn, b01_1, b01_0, b01_1s, b01_0s, or_b, mm200, mu200, mm201, mu201, mm202, mu202, mm203, mu203, mm204, mu204, mm205, mu205, mm206, mu206, mm207, mu207, mm208, mu208, mm209, mu209, mm210, mu210, mm211, mu211, mm212, mu212, mm213, mu213, mm214, mu214, mm215, mu215, mm216, mu216, mm217, mu217, mm218, mu218, mm219, mu219, mm220, mu220, mm221, mu221, mm222, mu222, mm223, mu223, mm224, mu224, mm225, mu225, mm226, mu226, mm227, mu227, mm228, mu228, mm229, mu229, mm230, mu230]
    exact this
  | succ r ih =>
    intro p g X hp hT hg hq hQ
    obtain ⟨t1, t2⟩ := hT p (by omega)
    have t3 := bI_and t1
    have ho := fun (Q : List Value → Nat → Nat → ai_M → Prop) => octet_eq (G := G) (d := d) (sl := sl) (Q := Q) (X := X) (Y := Y) (q := p) (by omega)
    have t4 : bI (t p) &&& 255 = nI (t p) := t3
    rw [t2, t4] at ho
    rw [w256_41]
    simp (disch := omega) [w256_42, w256_43, w256_46, x256_47, w256_50, w256_51, w256_52, x256_53, w256_56, w256_58, w256_59, w256_60, w256_63, rt256, rt256, aw_st, ai_cls, ai_len, ai_p, ai_sw, ai_m, ai_c, ai_at, ai_isI, ai_isJ, ai_isA, ai_ld, ai_1i, ai_2i, ai_2l, ai_cn, ai_j, ai_set, ai_set2, ai_nl, ai_rs, ai_sm, Value.category, hk0, hk1, lits, litb, litm, litm2, List.getElem?_cons_zero, List.getElem?_cons_succ, or_n0, bit_r, fi0, fi1, fi2, fi3, nI_toInt, nI_add, pk_mul, nI_leI, nI_ltI, nI_eq, ib_nI, nI_clamp, va_up_self, va_up_ne, va_up_up, va_up_comm, pk_us, pk_un, upd_up, updL_up, pk_uLs, pk_uLn, b01_1, b01_0, b01_1s, b01_0s, or_b, mm200, mu200, mm201, mu201, mm202, mu202, mm203, mu203, mm204, mu204, mm205, mu205, mm206, mu206, mm207, mu207, mm208, mu208, mm209, mu209, mm210, mu210, mm211, mu211, mm212, mu212, mm213, mu213, mm214, mu214, mm215, mu215, mm216, mu216, mm217, mu217, mm218, mu218, mm219, mu219, mm220, mu220, mm221, mu221, mm222, mu222, mm223, mu223, mm224, mu224, mm225, mu225, mm226, mu226, mm227, mu227, mm228, mu228, mm229, mu229, mm230, mu230, ho, hg, show ¬ P ≤ p by omega]
    refine ih (p + 1) _ _ (by omega) (by rw [va_up_ne _ _ (by omega)]; exact hT) (va_up_self _ _ _) (fun q hq2 => ?_) (fun g' hg' => by rw [va_up_up]; exact hQ g' hg')
    by_cases e : q = p
    · rw [e, pk_us]; rfl
    · rw [pk_un e]; exact hq q (by omega)
set_option maxHeartbeats 8000000 in
theorem row_fill (hP : 0 < P) (hP6 : P ≤ 6) : ∀ (r c : Nat) (X1 : mX), c + r = 3 * (P * P) → RWS X1 P c → TRG X X1 → TRV X X1 → X1 219 = X 219 → X1 220 = X 220 → X1 199 44 = X 199 44 → (∀ X', RWS X' P (3 * (P * P)) → TRG X X' → TRV X X' → X' 219 = X 219 → X' 220 = X 220 → X' 199 44 = X 199 44 → aw ET G (d + 1) 256 156 [some (.ref 199), some (.int (nI P)), some (.int (nI (3 * (P * P)))), none, none, none] [] 231 sl (mem X' Y) Q) → aw ET G (d + 1) 256 73 [some (.ref 199), some (.int (nI P)), some (.int (nI c)), none, none, none] [] 231 sl (mem X1 Y) Q := by
  have hp := pp_le hP6
  intro r
  induction r with
  | zero =>
    intro c X1 hc hr hf hf2 h219 h220 h44 hQ
    have : c = 3 * (P * P) := by omega
    subst this
    have := hQ X1 hr hf hf2 h219 h220 h44
    rw [w256_73]
    simp (disch := omega) [w256_74, w256_75, w256_76, w256_77, w256_78, w256_79, rt256, rt256, aw_st, ai_cls, ai_len, ai_p, ai_sw, ai_m, ai_c, ai_at, ai_isI, ai_isJ, ai_isA, ai_ld, ai_1i, ai_2i, ai_2l, ai_cn, ai_j, ai_set, ai_set2, ai_nl, ai_rs, ai_sm, Value.category, hk0, hk1, lits, litb, litm, litm2, List.getElem?_cons_zero, List.getElem?_cons_succ, or_n0, bit_r, fi0, fi1, fi2, fi3, nI_toInt, nI_add, pk_mul, nI_leI, nI_ltI, nI_eq, ib_nI, nI_clamp, va_up_self, va_up_ne, va_up_up, va_up_comm, pk_us, pk_un, upd_up, updL_up, pk_uLs, pk_uLn, b01_1, b01_0, b01_1s, b01_0s, or_b, mm200, mu200, mm201, mu201, mm202, mu202, mm203, mu203, mm204, mu204, mm205, mu205, mm206, mu206, mm207, mu207, mm208, mu208, mm209, mu209, mm210, mu210, mm211, mu211, mm212, mu212, mm213, mu213, mm214, mu214, mm215, mu215, mm216, mu216, mm217, mu217, mm218, mu218, mm219, mu219, mm220, mu220, mm221, mu221, mm222, mu222, mm223, mu223, mm224, mu224, mm225, mu225, mm226, mu226, mm227, mu227, mm228, mu228, mm229, mu229, mm230, mu230, NP]
    exact this
  | succ r ih =>
    intro c X1 hc hr hf hf2 h219 h220 h44 hQ
    have hno : ¬ 3 * (P * P) ≤ c := by omega
    have h1 := div_small (a := c) (b := 3) (by omega) (by omega) (by omega)
    have h2 : nI (c / 3) / nI P = nI (cdH P c) := div_small (a := c / 3) (b := P) (by omega) hP hP6
    have h3 : nI (c / 3) - nI (cdH P c * P) = nI (cdW P c) := by
      have := mod_small (a := c / 3) (b := P) (by omega) hP hP6
      rw [h2, pk_mul] at this
      exact this
    have h4 : nI c - nI (c / 3 * 3) = nI (c % 3) := by
      have := mod_small (a := c) (b := 3) (by omega) (by omega) (by omega)
      rw [h1, pk_mul] at this
      exact this
    have hP0 : ¬ P = 0 := by omega
    have cH := cdH_lt hP (show c < 3 * (P * P) by omega)
    have cW := cdW_lt hP (c := c)
    have v90 := vct_90 hP6
    have vle := vct_le (P := P) (show c ≤ 3 * (P * P) by omega)
    rw [w256_73]
    by_cases z : cdH P c = cdW P c
    · have hv : vlC P c = false := decide_eq_false (fun h => h z)
      simp (disch := omega) [w256_74, w256_75, w256_76, w256_77, w256_78, w256_79, w256_82, w256_83, w256_84, w256_85, w256_86, w256_87, w256_88, w256_89, w256_90, w256_91, w256_92, rt256, rt256, aw_st, ai_cls, ai_len, ai_p, ai_sw, ai_m, ai_c, ai_at, ai_isI, ai_isJ, ai_isA, ai_ld, ai_1i, ai_2i, ai_2l, ai_cn, ai_j, ai_set, ai_set2, ai_nl, ai_rs, ai_sm, Value.category, hk0, hk1, lits, litb, litm, litm2, List.getElem?_cons_zero, List.getElem?_cons_succ, or_n0, bit_r, fi0, fi1, fi2, fi3, nI_toInt, nI_add, pk_mul, nI_leI, nI_ltI, nI_eq, ib_nI, nI_clamp, va_up_self, va_up_ne, va_up_up, va_up_comm, pk_us, pk_un, upd_up, updL_up, pk_uLs, pk_uLn, b01_1, b01_0, b01_1s, b01_0s, or_b, mm200, mu200, mm201, mu201, mm202, mu202, mm203, mu203, mm204, mu204, mm205, mu205, mm206, mu206, mm207, mu207, mm208, mu208, mm209, mu209, mm210, mu210, mm211, mu211, mm212, mu212, mm213, mu213, mm214, mu214, mm215, mu215, mm216, mu216, mm217, mu217, mm218, mu218, mm219, mu219, mm220, mu220, mm221, mu221, mm222, mu222, mm223, mu223, mm224, mu224, mm225, mu225, mm226, mu226, mm227, mu227, mm228, mu228, mm229, mu229, mm230, mu230, NP, hno, h1, h2, h3, hP0]
      rw [if_pos z]
      simp (disch := omega) [w256_95, w256_150, w256_153, rt256, rt256, aw_st, ai_cls, ai_len, ai_p, ai_sw, ai_m, ai_c, ai_at, ai_isI, ai_isJ, ai_isA, ai_ld, ai_1i, ai_2i, ai_2l, ai_cn, ai_j, ai_set, ai_set2, ai_nl, ai_rs, ai_sm, Value.category, hk0, hk1, lits, litb, litm, litm2, List.getElem?_cons_zero, List.getElem?_cons_succ, or_n0, bit_r, fi0, fi1, fi2, fi3, nI_toInt, nI_add, pk_mul, nI_leI, nI_ltI, nI_eq, ib_nI, nI_clamp, va_up_self, va_up_ne, va_up_up, va_up_comm, pk_us, pk_un, upd_up, updL_up, pk_uLs, pk_uLn, b01_1, b01_0, b01_1s, b01_0s, or_b, mm200, mu200, mm201, mu201, mm202, mu202, mm203, mu203, mm204, mu204, mm205, mu205, mm206, mu206, mm207, mu207, mm208, mu208, mm209, mu209, mm210, mu210, mm211, mu211, mm212, mu212, mm213, mu213, mm214, mu214, mm215, mu215, mm216, mu216, mm217, mu217, mm218, mu218, mm219, mu219, mm220, mu220, mm221, mu221, mm222, mu222, mm223, mu223, mm224, mu224, mm225, mu225, mm226, mu226, mm227, mu227, mm228, mu228, mm229, mu229, mm230, mu230]
      refine ih (c + 1) X1 (by omega) ⟨?_, fun c' hc' hv' => ?_⟩ hf hf2 h219 h220 h44 hQ
      · rw [hr.1]
        show _ = nI (vct P c + (if vlC P c = true then 1 else 0))
        rw [hv, if_neg (by decide)]
        rfl
      · by_cases e : c' = c
        · rw [e, hv] at hv'; exact absurd hv' (by decide)
        · exact hr.2 c' (by omega) hv'
    · have hv : vlC P c = true := decide_eq_true z
      have vlt := vct_lt (show c < 3 * (P * P) by omega) hv
      simp (disch := omega) [w256_74, w256_75, w256_76, w256_77, w256_78, w256_79, w256_82, w256_83, w256_84, w256_85, w256_86, w256_87, w256_88, w256_89, w256_90, w256_91, w256_92, rt256, rt256, aw_st, ai_cls, ai_len, ai_p, ai_sw, ai_m, ai_c, ai_at, ai_isI, ai_isJ, ai_isA, ai_ld, ai_1i, ai_2i, ai_2l, ai_cn, ai_j, ai_set, ai_set2, ai_nl, ai_rs, ai_sm, Value.category, hk0, hk1, lits, litb, litm, litm2, List.getElem?_cons_zero, List.getElem?_cons_succ, or_n0, bit_r, fi0, fi1, fi2, fi3, nI_toInt, nI_add, pk_mul, nI_leI, nI_ltI, nI_eq, ib_nI, nI_clamp, va_up_self, va_up_ne, va_up_up, va_up_comm, pk_us, pk_un, upd_up, updL_up, pk_uLs, pk_uLn, b01_1, b01_0, b01_1s, b01_0s, or_b, mm200, mu200, mm201, mu201, mm202, mu202, mm203, mu203, mm204, mu204, mm205, mu205, mm206, mu206, mm207, mu207, mm208, mu208, mm209, mu209, mm210, mu210, mm211, mu211, mm212, mu212, mm213, mu213, mm214, mu214, mm215, mu215, mm216, mu216, mm217, mu217, mm218, mu218, mm219, mu219, mm220, mu220, mm221, mu221, mm222, mu222, mm223, mu223, mm224, mu224, mm225, mu225, mm226, mu226, mm227, mu227, mm228, mu228, mm229, mu229, mm230, mu230, NP, hno, h1, h2, h3, hP0, z]
      simp (disch := omega) [w256_98, x256_99, w256_102, x256_103, w256_106, w256_107, w256_108, w256_109, w256_110, w256_111, w256_112, x256_113, w256_116, x256_117, w256_120, w256_121, w256_122, w256_123, w256_124, w256_125, rt256, rt256, aw_st, ai_cls, ai_len, ai_p, ai_sw, ai_m, ai_c, ai_at, ai_isI, ai_isJ, ai_isA, ai_ld, ai_1i, ai_2i, ai_2l, ai_cn, ai_j, ai_set, ai_set2, ai_nl, ai_rs, ai_sm, Value.category, hk0, hk1, lits, litb, litm, litm2, List.getElem?_cons_zero, List.getElem?_cons_succ, or_n0, bit_r, fi0, fi1, fi2, fi3, nI_toInt, nI_add, pk_mul, nI_leI, nI_ltI, nI_eq, ib_nI, nI_clamp, va_up_self, va_up_ne, va_up_up, va_up_comm, pk_us, pk_un, upd_up, updL_up, pk_uLs, pk_uLn, b01_1, b01_0, b01_1s, b01_0s, or_b, mm200, mu200, mm201, mu201, mm202, mu202, mm203, mu203, mm204, mu204, mm205, mu205, mm206, mu206, mm207, mu207, mm208, mu208, mm209, mu209, mm210, mu210, mm211, mu211, mm212, mu212, mm213, mu213, mm214, mu214, mm215, mu215, mm216, mu216, mm217, mu217, mm218, mu218, mm219, mu219, mm220, mu220, mm221, mu221, mm222, mu222, mm223, mu223, mm224, mu224, mm225, mu225, mm226, mu226, mm227, mu227, mm228, mu228, mm229, mu229, mm230, mu230, h1, h2, h3, hP0, hr.1]
      simp (disch := omega) [w256_126, x256_127, w256_130, x256_131, w256_134, w256_135, w256_136, w256_137, w256_138, w256_139, w256_140, w256_141, x256_142, w256_145, w256_146, x256_147, w256_150, w256_153, rt256, rt256, aw_st, ai_cls, ai_len, ai_p, ai_sw, ai_m, ai_c, ai_at, ai_isI, ai_isJ, ai_isA, ai_ld, ai_1i, ai_2i, ai_2l, ai_cn, ai_j, ai_set, ai_set2, ai_nl, ai_rs, ai_sm, Value.category, hk0, hk1, lits, litb, litm, litm2, List.getElem?_cons_zero, List.getElem?_cons_succ, or_n0, bit_r, fi0, fi1, fi2, fi3, nI_toInt, nI_add, pk_mul, nI_leI, nI_ltI, nI_eq, ib_nI, nI_clamp, va_up_self, va_up_ne, va_up_up, va_up_comm, pk_us, pk_un, upd_up, updL_up, pk_uLs, pk_uLn, b01_1, b01_0, b01_1s, b01_0s, or_b, mm200, mu200, mm201, mu201, mm202, mu202, mm203, mu203, mm204, mu204, mm205, mu205, mm206, mu206, mm207, mu207, mm208, mu208, mm209, mu209, mm210, mu210, mm211, mu211, mm212, mu212, mm213, mu213, mm214, mu214, mm215, mu215, mm216, mu216, mm217, mu217, mm218, mu218, mm219, mu219, mm220, mu220, mm221, mu221, mm222, mu222, mm223, mu223, mm224, mu224, mm225, mu225, mm226, mu226, mm227, mu227, mm228, mu228, mm229, mu229, mm230, mu230, h1, h4, hr.1]
      refine ih (c + 1) _ (by omega) ⟨?_, fun c' hc' hv' => ?_⟩ ⟨fun j a b => ?_, fun j a => ?_⟩ (fun j a b => ?_) ?_ ?_ ?_ hQ
      · show _ = nI (vct P c + (if vlC P c = true then 1 else 0))
        rw [hv, if_pos rfl]
        simp [va_up, upd]
      · by_cases e : c' = c
        · subst e
          refine ⟨?_, ?_, ?_⟩
          · simp [va_up, upd]
          · simp [va_up, upd]
          · simp [va_up, upd, Nat.add_comm]
        · have hl := vct_lt (show c' < c by omega) hv'
          obtain ⟨r1, r2, r3⟩ := hr.2 c' (by omega) hv'
          have hne : ¬ vct P c' = vct P c := by omega
          refine ⟨?_, ?_, ?_⟩
          · simp [va_up, upd, hne, r1]
          · simp [va_up, upd, hne, r2]
          · simp [va_up, upd, hne, r3]
      · simp only [va_up, a, if_false, show ¬ j = 216 by omega, show ¬ j = 217 by omega, show ¬ j = 218 by omega]
        exact hf.1 j a b
      · simp [va_up]
        rw [pk_un (by omega)]
        exact hf.2 j a
      · simp only [va_up, show ¬ j = 216 by omega, show ¬ j = 217 by omega, show ¬ j = 218 by omega, show ¬ j = 199 by omega, if_false]
        exact hf2 j a b
      · simp [va_up, h219]
      · simp [va_up, h220]
      · simp [va_up, upd, h44]
end RTO
