/-! TALKED: the class, choosing -/
section TTU
variable {G : ai_G} {d sl : Nat} {Y : mY} {P : Nat} {S : tS}
/-- the last talk: one, or none -/
def lastF (P : Nat) (b : Nat → Int32) (can : Nat → Bool) (n a1 a2 : Nat) (k : Nat) (S : tS) : tS := if can k = true then tlS (evR (buC b P k) P 0) n (if n = 1 then k else a1) (if n = 2 then k else a2) (if n = 3 then k else 0) S else S
theorem lastF_one (hP : 0 < P) (hP6 : P ≤ 6) {b : Nat → Int32} {can : Nat → Bool} {n a1 a2 fr t : Nat} (hc : ∀ k, can k = true → vlC P k = true) (ht : torR b P = nI t) (hT : t < 108) (hfr : fr ≤ 3 * (P * P)) {S : tS} : foldC (lastF P b can n a1 a2) (3 * (P * P) - fr) fr S = if fr ≤ t ∧ t < fr + (3 * (P * P) - fr) then lastF P b can n a1 a2 t S else S := by
  have hp := pp_le hP6
  apply foldC_one
  intro j h1 h2 h3 S
  unfold lastF
  split
  · rename_i q
    have : evR (buC b P j) P 0 = false := by
      cases e : evR (buC b P j) P 0
      · rfl
      · have := torR_to hP hP6 (by omega) (hc j q) e
        rw [ht] at this
        exact absurd ((nI_eq (by omega) (by omega)).mp this).symm h3
    rw [this]
    rfl
  · rfl
theorem lastF_no (hP : 0 < P) (hP6 : P ≤ 6) {b : Nat → Int32} {can : Nat → Bool} {n a1 a2 fr : Nat} (hc : ∀ k, can k = true → vlC P k = true) (ht : torR b P = mi1) (hfr : fr ≤ 3 * (P * P)) {S : tS} : foldC (lastF P b can n a1 a2) (3 * (P * P) - fr) fr S = S := by
  have hp := pp_le hP6
  apply foldC_id
  intro j h1 h2 S
  unfold lastF
  split
  · rename_i q
    have : evR (buC b P j) P 0 = false := by
      cases e : evR (buC b P j) P 0
      · rfl
      · have := torR_to hP hP6 (by omega) (hc j q) e
        rw [ht] at this
        exact absurd this.symm (nI_mi1 (by omega))
    rw [this]
    rfl
  · rfl
/-- the talks chosen so far -/
def CH (X : mX) (m a1 a2 : Nat) : Prop := (0 < m → X 44 0 = nI a1 ∧ a1 < 108) ∧ (1 < m → X 44 1 = nI a2 ∧ a2 < 108)
theorem CH_f {X : mX} {m a1 a2 : Nat} (h : CH X m a1 a2) (hm : m ≤ 2) : ∀ i, i < m → ∃ q, q < 108 ∧ X 44 i = nI q := by
  intro i hi
  rcases (show i = 0 ∨ i = 1 by omega) with rfl | rfl
  · exact ⟨a1, (h.1 (by omega)).2, (h.1 (by omega)).1⟩
  · exact ⟨a2, (h.2 (by omega)).2, (h.2 (by omega)).1⟩
theorem canT_v {f : Nat → Int32} {c m : Nat} (h : canT P f c m = true) : vlC P c = true := by
  unfold canT at h
  rw [Bool.and_eq_true] at h
  exact h.1
/-- but for the sets of talks -/
def TF (X X' : mX) : Prop := ∀ j, ¬ j = 42 → ¬ j = 44 → ¬ j = 45 → X' j = X j
theorem canT_cg {f g : Nat → Int32} {c m : Nat} (h : ∀ i, i < m → f i = g i) : canT P f c m = canT P g c m := by
  unfold canT
  congr 1
  have : ∀ r i, i + r = m → noneT P f c r i = noneT P g c r i := by
    intro r
    induction r with
    | zero => intro i _; rfl
    | succ r ih =>
      intro i hi
      unfold noneT
      rw [h i (by omega), ih (i + 1) (by omega)]
  exact this m 0 (by omega)
set_option maxHeartbeats 8000000 in
/-- CHOOSE the last one: n talks in all -/
theorem last_wp {Q : List Value → Nat → Nat → ai_M → Prop} {X0 X : mX} {n a1 a2 fr : Nat} (hG : G.1 = false) (hP : 0 < P) (hP6 : P ≤ 6) (hn1 : 1 ≤ n) (hn : n ≤ 3) (hfr : fr ≤ 3 * (P * P)) (hk : KF X0 X P S) (hc : CH X (n - 1) a1 a2) (h1 : n = 1 → a1 = 0) (h2 : n ≤ 2 → a2 = 0) (hS : S.1 < 2000000) (hQ : ∀ X', TF X X' → (∀ i, i < n - 1 → X' 44 i = X 44 i) → KF X0 X' P (foldC (lastF P (X 43) (fun k => canT P (X 44) k (n - 1)) n a1 a2) (3 * (P * P) - fr) fr S) → Q [] 231 sl (mem X' Y)) : aw ET G (d + 2) 126 0 [some (.ref 42), some (.int (nI (n - 1))), some (.int (nI n)), some (.int (nI fr)), none] [] 231 sl (mem X Y) Q := by
  have hp := pp_le hP6
  have ht := fun (Q : List Value → Nat → Nat → ai_M → Prop) => tor_eq (G := G) (d := d + 1) (sl := sl) (Q := Q) (X := X) (Y := Y) hP6 hk.2.1
  have hcv : ∀ k, canT P (X 44) k (n - 1) = true → vlC P k = true := fun k h => canT_v h
  rcases torR_fro hP hP6 (b := X 43) with e | ⟨t, t1, t2, t3, t4⟩
  · rw [lastF_no hP hP6 hcv e hfr] at hQ
    rw [e] at ht
    have hlt : mi1 < nI fr := mi1_lt (by omega)
    have hle : ¬ nI fr ≤ mi1 := Int32.not_le.mpr hlt
    simp (disch := omega) [w126_0, x126_1_42, w126_4, w126_6, w126_8, w126_9, w126_12, w126_13, w126_15, x126_16_42, w126_19, w126_22, x126_23_42, w126_26, w126_27, w126_29, w126_30, w126_31, x126_32_42, w126_35, rt126, rt126, aw_st, ai_cls, ai_len, ai_p, ai_sw, ai_m, ai_c, ai_at, ai_isI, ai_isJ, ai_isA, ai_ld, ai_1i, ai_2i, ai_2l, ai_cn, ai_j, ai_set, ai_set2, ai_nl, ai_rs, ai_sm, Value.category, hk0, hk1, lits, litb, litm, litm2, List.getElem?_cons_zero, List.getElem?_cons_succ, or_n0, bit_r, fi0, fi1, fi2, fi3, nI_toInt, nI_add, pk_mul, nI_leI, nI_ltI, nI_eq, ib_nI, nI_clamp, va_up_self, va_up_ne, va_up_up, va_up_comm, pk_us, pk_un, upd_up, updL_up, pk_uLs, pk_uLn, b01_1, b01_0, b01_1s, b01_0s, or_b, ht, hlt, hle]
    exact hQ X (fun _ _ _ _ => rfl) (fun _ _ => rfl) hk
  · rw [lastF_one hP hP6 hcv t4 (by omega) hfr] at hQ
    rw [t4] at ht
    by_cases q : t < fr
    · rw [if_neg (by omega)] at hQ
      simp (disch := omega) [w126_0, x126_1_42, w126_4, w126_6, w126_8, w126_9, w126_12, w126_13, w126_15, x126_16_42, w126_19, w126_22, x126_23_42, w126_26, w126_27, w126_29, w126_30, w126_31, x126_32_42, w126_35, rt126, rt126, aw_st, ai_cls, ai_len, ai_p, ai_sw, ai_m, ai_c, ai_at, ai_isI, ai_isJ, ai_isA, ai_ld, ai_1i, ai_2i, ai_2l, ai_cn, ai_j, ai_set, ai_set2, ai_nl, ai_rs, ai_sm, Value.category, hk0, hk1, lits, litb, litm, litm2, List.getElem?_cons_zero, List.getElem?_cons_succ, or_n0, bit_r, fi0, fi1, fi2, fi3, nI_toInt, nI_add, pk_mul, nI_leI, nI_ltI, nI_eq, ib_nI, nI_clamp, va_up_self, va_up_ne, va_up_up, va_up_comm, pk_us, pk_un, upd_up, updL_up, pk_uLs, pk_uLn, b01_1, b01_0, b01_1s, b01_0s, or_b, ht, q]
      exact hQ X (fun _ _ _ _ => rfl) (fun _ _ => rfl) hk
    · rw [if_pos (by omega)] at hQ
      have hca := fun (Q : List Value → Nat → Nat → ai_M → Prop) => can_eq (G := G) (d := d) (sl := sl) (Q := Q) (X := X) (Y := Y) (c := t) (m := n - 1) hP hP6 hk.2.1 (by omega) (by omega) (CH_f hc (by omega))
      unfold lastF at hQ
      dsimp only at hQ
      cases z : canT P (X 44) t (n - 1)
      · rw [z] at hca
        have e0 : b01 (false = true) = nI 0 := by decide
        rw [e0] at hca
        simp only [z, Bool.false_eq_true, if_false] at hQ
        simp (disch := omega) [w126_0, x126_1_42, w126_4, w126_6, w126_8, w126_9, w126_12, w126_13, w126_15, x126_16_42, w126_19, w126_22, x126_23_42, w126_26, w126_27, w126_29, w126_30, w126_31, x126_32_42, w126_35, rt126, rt126, aw_st, ai_cls, ai_len, ai_p, ai_sw, ai_m, ai_c, ai_at, ai_isI, ai_isJ, ai_isA, ai_ld, ai_1i, ai_2i, ai_2l, ai_cn, ai_j, ai_set, ai_set2, ai_nl, ai_rs, ai_sm, Value.category, hk0, hk1, lits, litb, litm, litm2, List.getElem?_cons_zero, List.getElem?_cons_succ, or_n0, bit_r, fi0, fi1, fi2, fi3, nI_toInt, nI_add, pk_mul, nI_leI, nI_ltI, nI_eq, ib_nI, nI_clamp, va_up_self, va_up_ne, va_up_up, va_up_comm, pk_us, pk_un, upd_up, updL_up, pk_uLs, pk_uLn, b01_1, b01_0, b01_1s, b01_0s, or_b, ht, q, hca]
        exact hQ X (fun _ _ _ _ => rfl) (fun _ _ => rfl) hk
      · rw [z] at hca
        have e1 : b01 (true = true) = nI 1 := by decide
        rw [e1] at hca
        simp only [z, eq_self, if_true, t3] at hQ
        simp (disch := omega) [w126_0, x126_1_42, w126_4, w126_6, w126_8, w126_9, w126_12, w126_13, w126_15, x126_16_42, w126_19, w126_22, x126_23_42, w126_26, w126_27, w126_29, w126_30, w126_31, rt126, rt126, aw_st, ai_cls, ai_len, ai_p, ai_sw, ai_m, ai_c, ai_at, ai_isI, ai_isJ, ai_isA, ai_ld, ai_1i, ai_2i, ai_2l, ai_cn, ai_j, ai_set, ai_set2, ai_nl, ai_rs, ai_sm, Value.category, hk0, hk1, lits, litb, litm, litm2, List.getElem?_cons_zero, List.getElem?_cons_succ, or_n0, bit_r, fi0, fi1, fi2, fi3, nI_toInt, nI_add, pk_mul, nI_leI, nI_ltI, nI_eq, ib_nI, nI_clamp, va_up_self, va_up_ne, va_up_up, va_up_comm, pk_us, pk_un, upd_up, updL_up, pk_uLs, pk_uLn, b01_1, b01_0, b01_1s, b01_0s, or_b, ht, q, hca, mm44, mu44]
        rw [x126_32_42, if_pos (by decide)]
        refine tkeep_wp (X0 := X0) (S := S) (a := if n = 1 then t else a1) (b := if n = 2 then t else a2) (e := if n = 3 then t else 0) hG (KF_cg hk (va_up_ne _ _ (by omega)) (va_up_ne _ _ (by omega))) ?_ hn hS ?_
        · intro i hi
          rw [va_up_self]
          rcases (show n = 1 ∨ n = 2 ∨ n = 3 by omega) with rfl | rfl | rfl
          · have : i = 0 := by omega
            subst this
            exact ⟨pk_us, by show t < 108; omega⟩
          · rcases (show i = 0 ∨ i = 1 by omega) with rfl | rfl
            · rw [pk_un (by omega)]; exact hc.1 (by omega)
            · exact ⟨pk_us, by show t < 108; omega⟩
          · rcases (show i = 0 ∨ i = 1 ∨ i = 2 by omega) with rfl | rfl | rfl
            · rw [pk_un (by omega)]; exact hc.1 (by omega)
            · rw [pk_un (by omega)]; exact hc.2 (by omega)
            · exact ⟨pk_us, by show t < 108; omega⟩
        · intro X' f k
          simp (disch := omega) [w126_35, rt126, rt126, aw_st, ai_cls, ai_len, ai_p, ai_sw, ai_m, ai_c, ai_at, ai_isI, ai_isJ, ai_isA, ai_ld, ai_1i, ai_2i, ai_2l, ai_cn, ai_j, ai_set, ai_set2, ai_nl, ai_rs, ai_sm, Value.category, hk0, hk1, lits, litb, litm, litm2, List.getElem?_cons_zero, List.getElem?_cons_succ, or_n0, bit_r, fi0, fi1, fi2, fi3, nI_toInt, nI_add, pk_mul, nI_leI, nI_ltI, nI_eq, ib_nI, nI_clamp, va_up_self, va_up_ne, va_up_up, va_up_comm, pk_us, pk_un, upd_up, updL_up, pk_uLs, pk_uLn, b01_1, b01_0, b01_1s, b01_0s, or_b]
          exact hQ X' (fun j a b e => by rw [f j a e, va_up_ne _ _ b]) (fun i hi => by rw [f 44 (by omega) (by omega), va_up_self, pk_un (by omega)]) k
end TTU
