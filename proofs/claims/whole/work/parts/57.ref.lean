/-! THE REFERENCE, VIII: sales, the most, what is told -/
section RFH
variable {G : ai_G} {d n sl : Nat} {Y : mY} {Q : List Value → Nat → Nat → ai_M → Prop} {l k : Nat → Nat → Int32} {P S m : Nat} {ls : Nat → Nat → Nat → Int32} {X : mX}
/-- the times that stories were told, within bounds -/
def TB (l : Nat → Nat → Int32) (B : Nat) : Prop := ∀ i, i < 8 → ∃ t, t ≤ B ∧ l 6 i = nI t
theorem sub_max {a b : Nat} (ha : a < 2 ^ 30) (hb : b < 2 ^ 30) : (if nI a - nI b ≤ nI 0 then nI 0 else nI a - nI b) = nI (a - b) := by
  by_cases h : b < a
  · rw [pk_sub (by omega), if_neg (nI_ge (a := 0) (by omega) (by omega))]
  · rw [show a - b = 0 by omega]
    by_cases e : a = b
    · subst e; rw [pk_sub (Nat.le_refl _)]; simp
    · rw [if_pos (show nI a - nI b ≤ nI 0 from Int32.le_of_lt (pk_sneg (by omega) (by omega)))]
theorem max_nat {a b : Nat} (ha : a < 2 ^ 30) (hb : b < 2 ^ 30) : (if 0 < nI a - nI b then nI a - nI b else 0) = nI (a - b) := by
  by_cases h : b < a
  · rw [pk_sub (by omega), if_pos (show (0 : Int32) < _ from nI_lt (a := 0) (by omega) (by omega))]
  · rw [show a - b = 0 by omega]
    by_cases e : a = b
    · subst e; rw [pk_sub (Nat.le_refl _)]; simp; decide
    · have := pk_sneg (a := a) (b := b) (by omega) (by omega)
      rw [if_neg (fun q => absurd (Int32.lt_trans q this) (by decide))]; rfl
theorem mul_b {f t : Nat} (hf : f ≤ 9) (ht : t ≤ 33554432) : f * t ≤ 301989888 := by
  have := Nat.mul_le_mul hf ht
  omega
theorem worI_nat {q w f t : Nat} (hw : w ≤ 99) (hf : f ≤ 9) (ht : t ≤ 33554432) (h5 : k 5 q = nI w) (h6 : k 6 q = nI f) : worI k q (nI t) = nI (w - f * t) := by
  have := mul_b hf ht
  unfold worI
  rw [h5, h6, pk_mul, max_nat (by omega) (by omega)]
theorem saleR_nat {q w f : Nat} (hw : w ≤ 99) (hf : f ≤ 9) (h5 : k 5 q = nI w) (h6 : k 6 q = nI f) : ∀ (r p h t : Nat), t + r ≤ 33554432 → ∃ v, v ≤ h + 99 * r ∧ saleR l k q p r (nI h) (nI t) = nI v := by
  intro r
  induction r with
  | zero => intro p h t ht; exact ⟨h, by omega, rfl⟩
  | succ r ih =>
    intro p h t ht
    unfold saleR
    split
    · obtain ⟨v, hv, e⟩ := ih (p + 1) h t (by omega)
      exact ⟨v, by omega, e⟩
    · rw [worI_nat hw hf (by omega) h5 h6, nI_add, nI_1]
      obtain ⟨v, hv, e⟩ := ih (p + 1) (h + (w - f * t)) (t + 1) (by omega)
      exact ⟨v, by omega, e⟩
set_option maxHeartbeats 4000000 in
theorem soldOf_loop {q w f t : Nat} (h : LSb (X 201) l) (hk : KS (X 201) k P S) (hq : q < S) (hw : w ≤ 99) (hf : f ≤ 9) (ht : t ≤ 16777216) (h5 : k 5 q = nI w) (h6 : k 6 q = nI f) (h7 : l 6 q = nI t) : ∀ (r p : Nat) (acc : Int32) (j : Nat) (z : Option Value), p + r = P → j ≤ p → aw ET G (d + 2) 254 7 [some (.ref 199), some (.int (nI q)), some (.int acc), some (.int (nI j)), some (.int (nI p)), z] [] 231 sl (mem X Y) Q = Q [.int (saleR l k q p r acc (nI (t + j)))] 231 sl (mem X Y) := by
  have k1 := hk.2.2.2.2.1
  have hP := hk.1
  have hS := hk.2.1
  have k11 := hk.2.2.2.2.2.2.2.2.2.2.2.2.2.2 q hq
  have a12 := h.2.2.2.2.2.2.2.2.2.2.2 q (by omega)
  have hwo : ∀ Q : List Value → Nat → Nat → ai_M → Prop, aw ET G (d + 1) 208 0 [some (.ref 199), some (.int (nI q)), none] [] 231 sl (mem X Y) Q = Q [.int (nI (w - f * t))] 231 sl (mem X Y) := fun Q => by rw [worthOf_eq h hk hq, h7, worI_nat hw hf (by omega) h5 h6]
  intro r
  induction r with
  | zero =>
    intro p acc j z hp hj
    simp (disch := omega) [w254_0, w254_1, w254_2, w254_3, w254_4, w254_5, w254_7, w254_9, x254_10, w254_13, w254_14, w254_15, w254_18, x254_19, w254_22, w254_25, w254_26, w254_27, w254_28, x254_30, w254_33, w254_36, w254_39, w254_40, x254_41, w254_44, x254_45, w254_48, w254_50, w254_51, w254_52, w254_53, w254_54, w254_55, w254_56, w254_58, w254_59, w254_61, w254_64, w254_66, w254_69, w254_70, w254_71, w254_72, w254_75, w254_78, w254_81, w254_82, rt254, aw_st, ai_cls, ai_len, ai_p, ai_sw, ai_m, ai_c, ai_at, ai_isI, ai_isJ, ai_isA, ai_ld, ai_1i, ai_2i, ai_2l, ai_cn, ai_j, ai_set, ai_set2, ai_nl, ai_rs, ai_sm, Value.category, hk0, hk1, lits, litb, litm, litm2, or_n0, bit_r, fi0, fi1, fi2, fi3, nI_toInt, nI_add, pk_mul, nI_leI, nI_ltI, nI_eq, pk_sub, ib_nI, nI_clamp, va_up_self, va_up_ne, va_up_up, va_up_comm, pk_us, pk_un, upd_up, updL_up, pk_uLs, pk_uLn, b01_1, b01_0, b01_1s, b01_0s, or_b, mm200, mu200, mm201, mu201, mm202, mu202, mm203, mu203, mm204, mu204, mm205, mu205, mm206, mu206, mm207, mu207, mm208, mu208, mm209, mu209, mm210, mu210, mm211, mu211, mm212, mu212, mm213, mu213, mm214, mu214, mm215, mu215, mm216, mu216, mm217, mu217, mm218, mu218, mm219, mu219, mm220, mu220, mm221, mu221, mm222, mu222, mm223, mu223, mm224, mu224, mm225, mu225, mm226, mu226, mm227, mu227, mm228, mu228, mm229, mu229, mm230, mu230, k1, show P ≤ p by omega, saleR]
  | succ r ih =>
    intro p acc j z hp hj
    rw [w254_7]
    by_cases e1 : bit (l 7 q) (nI p) = nI 1
    · have := ih (p + 1) acc j z (by omega) (by omega)
      simp (disch := omega) [w254_0, w254_1, w254_2, w254_3, w254_4, w254_5, w254_9, x254_10, w254_13, w254_14, w254_15, w254_18, x254_19, w254_22, w254_25, w254_26, w254_27, w254_28, x254_30, w254_33, w254_36, w254_39, w254_40, x254_41, w254_44, x254_45, w254_48, w254_50, w254_51, w254_52, w254_53, w254_54, w254_55, w254_56, w254_58, w254_59, w254_61, w254_64, w254_66, w254_69, w254_70, w254_71, w254_72, w254_75, w254_78, w254_81, w254_82, rt254, aw_st, ai_cls, ai_len, ai_p, ai_sw, ai_m, ai_c, ai_at, ai_isI, ai_isJ, ai_isA, ai_ld, ai_1i, ai_2i, ai_2l, ai_cn, ai_j, ai_set, ai_set2, ai_nl, ai_rs, ai_sm, Value.category, hk0, hk1, lits, litb, litm, litm2, or_n0, bit_r, fi0, fi1, fi2, fi3, nI_toInt, nI_add, pk_mul, nI_leI, nI_ltI, nI_eq, pk_sub, ib_nI, nI_clamp, va_up_self, va_up_ne, va_up_up, va_up_comm, pk_us, pk_un, upd_up, updL_up, pk_uLs, pk_uLn, b01_1, b01_0, b01_1s, b01_0s, or_b, mm200, mu200, mm201, mu201, mm202, mu202, mm203, mu203, mm204, mu204, mm205, mu205, mm206, mu206, mm207, mu207, mm208, mu208, mm209, mu209, mm210, mu210, mm211, mu211, mm212, mu212, mm213, mu213, mm214, mu214, mm215, mu215, mm216, mu216, mm217, mu217, mm218, mu218, mm219, mu219, mm220, mu220, mm221, mu221, mm222, mu222, mm223, mu223, mm224, mu224, mm225, mu225, mm226, mu226, mm227, mu227, mm228, mu228, mm229, mu229, mm230, mu230, k1, a12, bitOf_eq, e1, saleR, show ¬ P ≤ p by omega, this]
    · have m1 := mul_b hf (show t ≤ 33554432 by omega)
      have m2 := mul_b hf (show j ≤ 33554432 by omega)
      have ms := sub_max (a := w - f * t) (b := f * j) (by omega) (by omega)
      have e2 : w - f * t - f * j = w - f * (t + j) := by rw [Nat.mul_add]; omega
      have ew : worI k q (nI (t + j)) = nI (w - f * (t + j)) := worI_nat hw hf (by omega) h5 h6
      rw [e2] at ms
      have i1 := ih (p + 1) (acc + nI (w - f * (t + j))) (j + 1) (some (.int (nI (w - f * t) - nI (f * j)))) (by omega) (by omega)
      by_cases e3 : nI (w - f * t) - nI (f * j) ≤ nI 0
      · rw [if_pos e3] at ms
        rw [← ms] at i1 ew
        simp (disch := omega) [w254_0, w254_1, w254_2, w254_3, w254_4, w254_5, w254_9, x254_10, w254_13, w254_14, w254_15, w254_18, x254_19, w254_22, w254_25, w254_26, w254_27, w254_28, x254_30, w254_33, w254_36, w254_39, w254_40, x254_41, w254_44, x254_45, w254_48, w254_50, w254_51, w254_52, w254_53, w254_54, w254_55, w254_56, w254_58, w254_59, w254_61, w254_64, w254_66, w254_69, w254_70, w254_71, w254_72, w254_75, w254_78, w254_81, w254_82, rt254, aw_st, ai_cls, ai_len, ai_p, ai_sw, ai_m, ai_c, ai_at, ai_isI, ai_isJ, ai_isA, ai_ld, ai_1i, ai_2i, ai_2l, ai_cn, ai_j, ai_set, ai_set2, ai_nl, ai_rs, ai_sm, Value.category, hk0, hk1, lits, litb, litm, litm2, or_n0, bit_r, fi0, fi1, fi2, fi3, nI_toInt, nI_add, pk_mul, nI_leI, nI_eq, ib_nI, nI_clamp, va_up_self, va_up_ne, va_up_up, va_up_comm, pk_us, pk_un, upd_up, updL_up, pk_uLs, pk_uLn, b01_1, b01_0, b01_1s, b01_0s, or_b, mm200, mu200, mm201, mu201, mm202, mu202, mm203, mu203, mm204, mu204, mm205, mu205, mm206, mu206, mm207, mu207, mm208, mu208, mm209, mu209, mm210, mu210, mm211, mu211, mm212, mu212, mm213, mu213, mm214, mu214, mm215, mu215, mm216, mu216, mm217, mu217, mm218, mu218, mm219, mu219, mm220, mu220, mm221, mu221, mm222, mu222, mm223, mu223, mm224, mu224, mm225, mu225, mm226, mu226, mm227, mu227, mm228, mu228, mm229, mu229, mm230, mu230, k1, a12, k11, h6, bitOf_eq, e1, e3, hwo, saleR, ew, show ¬ P ≤ p by omega]
        simpa [Nat.add_assoc] using Iff.of_eq i1
      · rw [if_neg e3] at ms
        rw [← ms] at i1 ew
        simp (disch := omega) [w254_0, w254_1, w254_2, w254_3, w254_4, w254_5, w254_9, x254_10, w254_13, w254_14, w254_15, w254_18, x254_19, w254_22, w254_25, w254_26, w254_27, w254_28, x254_30, w254_33, w254_36, w254_39, w254_40, x254_41, w254_44, x254_45, w254_48, w254_50, w254_51, w254_52, w254_53, w254_54, w254_55, w254_56, w254_58, w254_59, w254_61, w254_64, w254_66, w254_69, w254_70, w254_71, w254_72, w254_75, w254_78, w254_81, w254_82, rt254, aw_st, ai_cls, ai_len, ai_p, ai_sw, ai_m, ai_c, ai_at, ai_isI, ai_isJ, ai_isA, ai_ld, ai_1i, ai_2i, ai_2l, ai_cn, ai_j, ai_set, ai_set2, ai_nl, ai_rs, ai_sm, Value.category, hk0, hk1, lits, litb, litm, litm2, or_n0, bit_r, fi0, fi1, fi2, fi3, nI_toInt, nI_add, pk_mul, nI_leI, nI_eq, ib_nI, nI_clamp, va_up_self, va_up_ne, va_up_up, va_up_comm, pk_us, pk_un, upd_up, updL_up, pk_uLs, pk_uLn, b01_1, b01_0, b01_1s, b01_0s, or_b, mm200, mu200, mm201, mu201, mm202, mu202, mm203, mu203, mm204, mu204, mm205, mu205, mm206, mu206, mm207, mu207, mm208, mu208, mm209, mu209, mm210, mu210, mm211, mu211, mm212, mu212, mm213, mu213, mm214, mu214, mm215, mu215, mm216, mu216, mm217, mu217, mm218, mu218, mm219, mu219, mm220, mu220, mm221, mu221, mm222, mu222, mm223, mu223, mm224, mu224, mm225, mu225, mm226, mu226, mm227, mu227, mm228, mu228, mm229, mu229, mm230, mu230, k1, a12, k11, h6, bitOf_eq, e1, e3, hwo, saleR, ew, show ¬ P ≤ p by omega]
        simpa [Nat.add_assoc] using Iff.of_eq i1
/-- what holds of a STORY's numbers-/
def SB (l k : Nat → Nat → Int32) (S : Nat) : Prop := ∀ q, q < S → ∃ w f t, w ≤ 99 ∧ f ≤ 9 ∧ t ≤ 16777216 ∧ k 5 q = nI w ∧ k 6 q = nI f ∧ l 6 q = nI t
theorem soldOf_eq {q : Nat} (h : LSb (X 201) l) (hk : KS (X 201) k P S) (hB : SB l k S) (hq : q < S) : aw ET G (d + 2) 254 0 [some (.ref 199), some (.int (nI q)), none, none, none, none] [] 231 sl (mem X Y) Q = Q [.int (saleR l k q 0 P 0 (l 6 q))] 231 sl (mem X Y) := by
  obtain ⟨w, f, t, hw, hf, ht, h5, h6, h7⟩ := hB q hq
  have := soldOf_loop (G := G) (d := d) (sl := sl) (Q := Q) (Y := Y) h hk hq hw hf ht h5 h6 h7 P 0 0 0 none (by omega) (by omega)
  simp [w254_0, w254_1, w254_2, w254_3, w254_4, w254_5, w254_9, x254_10, w254_13, w254_14, w254_15, w254_18, x254_19, w254_22, w254_25, w254_26, w254_27, w254_28, x254_30, w254_33, w254_36, w254_39, w254_40, x254_41, w254_44, x254_45, w254_48, w254_50, w254_51, w254_52, w254_53, w254_54, w254_55, w254_56, w254_58, w254_59, w254_61, w254_64, w254_66, w254_69, w254_70, w254_71, w254_72, w254_75, w254_78, w254_81, w254_82, rt254, aw_st, ai_cls, ai_len, ai_p, ai_sw, ai_m, ai_c, ai_at, ai_isI, ai_isJ, ai_isA, ai_ld, ai_1i, ai_2i, ai_2l, ai_cn, ai_j, ai_set, ai_set2, ai_nl, ai_rs, ai_sm, Value.category, hk0, hk1, lits, litb, litm, litm2, or_n0, bit_r, fi0, fi1, fi2, fi3, nI_toInt, nI_add, pk_mul, nI_leI, nI_ltI, nI_eq, pk_sub, ib_nI, nI_clamp, va_up_self, va_up_ne, va_up_up, va_up_comm, pk_us, pk_un, upd_up, updL_up, pk_uLs, pk_uLn, b01_1, b01_0, b01_1s, b01_0s, or_b, mm200, mu200, mm201, mu201, mm202, mu202, mm203, mu203, mm204, mu204, mm205, mu205, mm206, mu206, mm207, mu207, mm208, mu208, mm209, mu209, mm210, mu210, mm211, mu211, mm212, mu212, mm213, mu213, mm214, mu214, mm215, mu215, mm216, mu216, mm217, mu217, mm218, mu218, mm219, mu219, mm220, mu220, mm221, mu221, mm222, mu222, mm223, mu223, mm224, mu224, mm225, mu225, mm226, mu226, mm227, mu227, mm228, mu228, mm229, mu229, mm230, mu230, h7] at this ⊢
  exact this
def soldV (P S : Nat) (l k : Nat → Nat → Int32) (x y : Int32) : Int32 := if (pI P x && pI S y) = true then saleI l k P (iN y) x else mi1
set_option maxHeartbeats 4000000 in
theorem sold_eq (h : LSb (X 201) l) (hk : KS (X 201) k P S) (hB : SB l k S) {x y : Int32} : aw ET G (d + 3) 253 0 [some (.ref 199), some (.int x), some (.int y)] [] 231 sl (mem X Y) Q = Q [.int (soldV P S l k x y)] 231 sl (mem (tz X) Y) := by
  have hP := hk.1
  have hS := hk.2.1
  have k1 := hk.2.2.2.2.1
  have k2 := hk.2.2.2.2.2.1
  have hp : ∀ (x : Int32) (Q : List Value → Nat → Nat → ai_M → Prop), aw ET G (d + 2) 201 0 [some (.ref 199), some (.int x)] [] 231 sl (mem (va_up X 199 (upd (X 199) 0 (nI 0))) Y) Q = Q [.int (b01 (pI P x = true))] 231 sl (mem (va_up X 199 (upd (X 199) 0 (nI 0))) Y) := fun x Q => isPerson_eq (X := (va_up X 199 (upd (X 199) 0 (nI 0)))) hP k1
  have hq : ∀ (x : Int32) (Q : List Value → Nat → Nat → ai_M → Prop), aw ET G (d + 2) 207 0 [some (.ref 199), some (.int x)] [] 231 sl (mem (va_up X 199 (upd (X 199) 0 (nI 0))) Y) Q = Q [.int (b01 (pI S x = true))] 231 sl (mem (va_up X 199 (upd (X 199) 0 (nI 0))) Y) := fun x Q => isStory_eq (X := (va_up X 199 (upd (X 199) 0 (nI 0)))) hS k2
  unfold soldV tz
  cases hx : pI P x
  · simp (disch := omega) [w253_0, w253_1, x253_2, w253_5, w253_6, x253_7, w253_10, w253_13, w253_14, x253_15, w253_18, w253_21, x253_22, w253_25, w253_28, w253_29, w253_30, w253_31, x253_32, w253_35, w253_38, w253_39, x253_40, w253_43, w253_46, w253_47, rt253, aw_st, ai_cls, ai_len, ai_p, ai_sw, ai_m, ai_c, ai_at, ai_isI, ai_isJ, ai_isA, ai_ld, ai_1i, ai_2i, ai_2l, ai_cn, ai_j, ai_set, ai_set2, ai_nl, ai_rs, ai_sm, Value.category, hk0, hk1, lits, litb, litm, litm2, or_n0, bit_r, fi0, fi1, fi2, fi3, nI_toInt, nI_add, pk_mul, nI_leI, nI_ltI, nI_eq, pk_sub, ib_nI, nI_clamp, va_up_self, va_up_ne, va_up_up, va_up_comm, pk_us, pk_un, upd_up, updL_up, pk_uLs, pk_uLn, b01_1, b01_0, b01_1s, b01_0s, or_b, mm200, mu200, mm201, mu201, mm202, mu202, mm203, mu203, mm204, mu204, mm205, mu205, mm206, mu206, mm207, mu207, mm208, mu208, mm209, mu209, mm210, mu210, mm211, mu211, mm212, mu212, mm213, mu213, mm214, mu214, mm215, mu215, mm216, mu216, mm217, mu217, mm218, mu218, mm219, mu219, mm220, mu220, mm221, mu221, mm222, mu222, mm223, mu223, mm224, mu224, mm225, mu225, mm226, mu226, mm227, mu227, mm228, mu228, mm229, mu229, mm230, mu230, hp, hx]
  · cases hy : pI S y
    · simp (disch := omega) [w253_0, w253_1, x253_2, w253_5, w253_6, x253_7, w253_10, w253_13, w253_14, x253_15, w253_18, w253_21, x253_22, w253_25, w253_28, w253_29, w253_30, w253_31, x253_32, w253_35, w253_38, w253_39, x253_40, w253_43, w253_46, w253_47, rt253, aw_st, ai_cls, ai_len, ai_p, ai_sw, ai_m, ai_c, ai_at, ai_isI, ai_isJ, ai_isA, ai_ld, ai_1i, ai_2i, ai_2l, ai_cn, ai_j, ai_set, ai_set2, ai_nl, ai_rs, ai_sm, Value.category, hk0, hk1, lits, litb, litm, litm2, or_n0, bit_r, fi0, fi1, fi2, fi3, nI_toInt, nI_add, pk_mul, nI_leI, nI_ltI, nI_eq, pk_sub, ib_nI, nI_clamp, va_up_self, va_up_ne, va_up_up, va_up_comm, pk_us, pk_un, upd_up, updL_up, pk_uLs, pk_uLn, b01_1, b01_0, b01_1s, b01_0s, or_b, mm200, mu200, mm201, mu201, mm202, mu202, mm203, mu203, mm204, mu204, mm205, mu205, mm206, mu206, mm207, mu207, mm208, mu208, mm209, mu209, mm210, mu210, mm211, mu211, mm212, mu212, mm213, mu213, mm214, mu214, mm215, mu215, mm216, mu216, mm217, mu217, mm218, mu218, mm219, mu219, mm220, mu220, mm221, mu221, mm222, mu222, mm223, mu223, mm224, mu224, mm225, mu225, mm226, mu226, mm227, mu227, mm228, mu228, mm229, mu229, mm230, mu230, hp, hq, hx, hy]
    · obtain ⟨q, hq1, rfl⟩ := (pI_nat (by omega)).mp hy
      have a12 := h.2.2.2.2.2.2.2.2.2.2.2 q (by omega)
      have hs : ∀ (Q : List Value → Nat → Nat → ai_M → Prop), aw ET G (d + 2) 254 0 [some (.ref 199), some (.int (nI q)), none, none, none, none] [] 231 sl (mem (va_up X 199 (upd (X 199) 0 (nI 0))) Y) Q = Q [.int (saleR l k q 0 P (nI 0) (l 6 q))] 231 sl (mem (va_up X 199 (upd (X 199) 0 (nI 0))) Y) := fun Q => soldOf_eq (X := (va_up X 199 (upd (X 199) 0 (nI 0)))) h hk hB hq1
      by_cases e : bit (l 7 q) x = nI 1 <;> simp (disch := omega) [w253_0, w253_1, x253_2, w253_5, w253_6, x253_7, w253_10, w253_13, w253_14, x253_15, w253_18, w253_21, x253_22, w253_25, w253_28, w253_29, w253_30, w253_31, x253_32, w253_35, w253_38, w253_39, x253_40, w253_43, w253_46, w253_47, rt253, aw_st, ai_cls, ai_len, ai_p, ai_sw, ai_m, ai_c, ai_at, ai_isI, ai_isJ, ai_isA, ai_ld, ai_1i, ai_2i, ai_2l, ai_cn, ai_j, ai_set, ai_set2, ai_nl, ai_rs, ai_sm, Value.category, hk0, hk1, lits, litb, litm, litm2, or_n0, bit_r, fi0, fi1, fi2, fi3, nI_toInt, nI_add, pk_mul, nI_leI, nI_ltI, nI_eq, pk_sub, ib_nI, nI_clamp, va_up_self, va_up_ne, va_up_up, va_up_comm, pk_us, pk_un, upd_up, updL_up, pk_uLs, pk_uLn, b01_1, b01_0, b01_1s, b01_0s, or_b, mm200, mu200, mm201, mu201, mm202, mu202, mm203, mu203, mm204, mu204, mm205, mu205, mm206, mu206, mm207, mu207, mm208, mu208, mm209, mu209, mm210, mu210, mm211, mu211, mm212, mu212, mm213, mu213, mm214, mu214, mm215, mu215, mm216, mu216, mm217, mu217, mm218, mu218, mm219, mu219, mm220, mu220, mm221, mu221, mm222, mu222, mm223, mu223, mm224, mu224, mm225, mu225, mm226, mu226, mm227, mu227, mm228, mu228, mm229, mu229, mm230, mu230, hp, hq, hx, hy, a12, bitOf_eq, e, hs, iN_nI, saleI]
/-- the best STORY of x: the one so far, and what it brings -/
def bestR (l k : Nat → Nat → Int32) (P : Nat) (x : Int32) : Nat → Nat → Int32 → Int32 → Int32
  | _, 0, st, _ => st
  | q, r + 1, st, mo => if mo < saleI l k P q x then bestR l k P x (q + 1) r (nI q) (saleI l k P q x) else bestR l k P x (q + 1) r st mo
theorem mi1_lt {v : Nat} (h : v < 2 ^ 31) : mi1 < nI v := Int32.lt_of_lt_of_le (by decide) (nI_pos' h)
theorem not_lt_mi1 {v : Nat} (h : v < 2 ^ 31) : ¬ nI v < mi1 := fun q => absurd (Int32.lt_trans q (mi1_lt h)) (Int32.not_lt.mpr (Int32.le_refl _))
theorem saleI_nat (hB : SB l k S) {q : Nat} (hq : q < S) (hP : P ≤ 8) {x : Int32} (hb : bit (l 7 q) x = 1) : ∃ v, v < 2 ^ 30 ∧ saleI l k P q x = nI v := by
  obtain ⟨w, f, t, hw, hf, ht, h5, h6, h7⟩ := hB q hq
  obtain ⟨v, hv, e⟩ := saleR_nat (l := l) hw hf h5 h6 P 0 0 t (by omega)
  refine ⟨v, by omega, ?_⟩
  unfold saleI
  rw [if_pos hb, h7]
  exact e
set_option maxHeartbeats 4000000 in
theorem best_loop (h : LSb (X 201) l) (hk : KS (X 201) k P S) (hB : SB l k S) {x : Int32} : ∀ (r q : Nat) (st mo : Int32), q + r = S → ((st = mi1 ∧ mo = mi1) ∨ ∃ s0, s0 < S ∧ bit (l 7 s0) x = 1 ∧ st = nI s0 ∧ mo = saleI l k P s0 x) → aw ET G (d + 3) 255 19 [some (.ref 199), some (.int x), some (.int st), some (.int (nI q))] [] 231 sl (mem X Y) Q = Q [.int (bestR l k P x q r st mo)] 231 sl (mem X Y) := by
  have hS := hk.2.1
  have hP := hk.1
  have k2 := hk.2.2.2.2.2.1
  intro r
  induction r with
  | zero =>
    intro q st mo hq hs
    simp (disch := omega) [w255_0, w255_1, x255_2, w255_5, w255_6, x255_7, w255_10, w255_13, w255_14, w255_15, w255_16, w255_17, w255_18, w255_19, w255_20, x255_21, w255_24, w255_25, w255_26, w255_29, x255_30, w255_33, w255_36, w255_37, w255_38, w255_39, x255_40, w255_43, w255_46, w255_47, w255_50, w255_51, x255_52, w255_55, w255_56, x255_57, w255_60, w255_63, w255_64, w255_65, w255_68, w255_71, w255_72, rt255, aw_st, ai_cls, ai_len, ai_p, ai_sw, ai_m, ai_c, ai_at, ai_isI, ai_isJ, ai_isA, ai_ld, ai_1i, ai_2i, ai_2l, ai_cn, ai_j, ai_set, ai_set2, ai_nl, ai_rs, ai_sm, Value.category, hk0, hk1, lits, litb, litm, litm2, or_n0, bit_r, fi0, fi1, fi2, fi3, nI_toInt, nI_add, pk_mul, nI_leI, nI_ltI, nI_eq, pk_sub, ib_nI, nI_clamp, va_up_self, va_up_ne, va_up_up, va_up_comm, pk_us, pk_un, upd_up, updL_up, pk_uLs, pk_uLn, b01_1, b01_0, b01_1s, b01_0s, or_b, mm200, mu200, mm201, mu201, mm202, mu202, mm203, mu203, mm204, mu204, mm205, mu205, mm206, mu206, mm207, mu207, mm208, mu208, mm209, mu209, mm210, mu210, mm211, mu211, mm212, mu212, mm213, mu213, mm214, mu214, mm215, mu215, mm216, mu216, mm217, mu217, mm218, mu218, mm219, mu219, mm220, mu220, mm221, mu221, mm222, mu222, mm223, mu223, mm224, mu224, mm225, mu225, mm226, mu226, mm227, mu227, mm228, mu228, mm229, mu229, mm230, mu230, k2, show S ≤ q by omega, bestR]
  | succ r ih =>
    intro q st mo hq hs
    have a12 := h.2.2.2.2.2.2.2.2.2.2.2 q (by omega)
    have hso : ∀ (q : Nat) (Q : List Value → Nat → Nat → ai_M → Prop), q < S → aw ET G (d + 2) 254 0 [some (.ref 199), some (.int (nI q)), none, none, none, none] [] 231 sl (mem X Y) Q = Q [.int (saleR l k q 0 P (nI 0) (l 6 q))] 231 sl (mem X Y) := fun q Q hq => soldOf_eq h hk hB hq
    rw [w255_19]
    by_cases e1 : bit (l 7 q) x = nI 1
    · have es : saleI l k P q x = saleR l k q 0 P (nI 0) (l 6 q) := if_pos e1
      obtain ⟨v, hv, ev⟩ := saleI_nat hB (show q < S by omega) hP e1
      have i1 := ih (q + 1) (nI q) (saleI l k P q x) (by omega) (Or.inr ⟨q, by omega, e1, rfl, rfl⟩)
      rcases hs with ⟨rfl, rfl⟩ | ⟨s0, hs0, hb0, rfl, rfl⟩
      · have c1 : mi1 < nI v := mi1_lt (by omega)
        have c2 : mi1 < nI 0 := by decide
        simp (disch := omega) [w255_0, w255_1, x255_2, w255_5, w255_6, x255_7, w255_10, w255_13, w255_14, w255_15, w255_16, w255_17, w255_18, w255_20, x255_21, w255_24, w255_25, w255_26, w255_29, x255_30, w255_33, w255_36, w255_37, w255_38, w255_39, x255_40, w255_43, w255_46, w255_47, w255_50, w255_51, x255_52, w255_55, w255_56, x255_57, w255_60, w255_63, w255_64, w255_65, w255_68, w255_71, w255_72, rt255, aw_st, ai_cls, ai_len, ai_p, ai_sw, ai_m, ai_c, ai_at, ai_isI, ai_isJ, ai_isA, ai_ld, ai_1i, ai_2i, ai_2l, ai_cn, ai_j, ai_set, ai_set2, ai_nl, ai_rs, ai_sm, Value.category, hk0, hk1, lits, litb, litm, litm2, or_n0, bit_r, fi0, fi1, fi2, fi3, nI_toInt, nI_add, pk_mul, nI_leI, nI_ltI, nI_eq, pk_sub, ib_nI, nI_clamp, va_up_self, va_up_ne, va_up_up, va_up_comm, pk_us, pk_un, upd_up, updL_up, pk_uLs, pk_uLn, b01_1, b01_0, b01_1s, b01_0s, or_b, mm200, mu200, mm201, mu201, mm202, mu202, mm203, mu203, mm204, mu204, mm205, mu205, mm206, mu206, mm207, mu207, mm208, mu208, mm209, mu209, mm210, mu210, mm211, mu211, mm212, mu212, mm213, mu213, mm214, mu214, mm215, mu215, mm216, mu216, mm217, mu217, mm218, mu218, mm219, mu219, mm220, mu220, mm221, mu221, mm222, mu222, mm223, mu223, mm224, mu224, mm225, mu225, mm226, mu226, mm227, mu227, mm228, mu228, mm229, mu229, mm230, mu230, k2, a12, bitOf_eq, e1, c2, bestR, ev, c1, show ¬ S ≤ q by omega]
        rw [← ev]
        exact Iff.of_eq i1
      · have es0 : saleI l k P s0 x = saleR l k s0 0 P (nI 0) (l 6 s0) := if_pos hb0
        have i2 := ih (q + 1) (nI s0) (saleI l k P s0 x) (by omega) (Or.inr ⟨s0, hs0, hb0, rfl, rfl⟩)
        rcases lt_or (saleI l k P s0 x) (saleI l k P q x) with ⟨g1, g2⟩ | ⟨g1, g2⟩
        · simp (disch := omega) [w255_0, w255_1, x255_2, w255_5, w255_6, x255_7, w255_10, w255_13, w255_14, w255_15, w255_16, w255_17, w255_18, w255_20, x255_21, w255_24, w255_25, w255_26, w255_29, x255_30, w255_33, w255_36, w255_37, w255_38, w255_39, x255_40, w255_43, w255_46, w255_47, w255_50, w255_51, x255_52, w255_55, w255_56, x255_57, w255_60, w255_63, w255_64, w255_65, w255_68, w255_71, w255_72, rt255, aw_st, ai_cls, ai_len, ai_p, ai_sw, ai_m, ai_c, ai_at, ai_isI, ai_isJ, ai_isA, ai_ld, ai_1i, ai_2i, ai_2l, ai_cn, ai_j, ai_set, ai_set2, ai_nl, ai_rs, ai_sm, Value.category, hk0, hk1, lits, litb, litm, litm2, or_n0, bit_r, fi0, fi1, fi2, fi3, nI_toInt, nI_add, pk_mul, nI_leI, nI_ltI, nI_eq, pk_sub, ib_nI, nI_clamp, va_up_self, va_up_ne, va_up_up, va_up_comm, pk_us, pk_un, upd_up, updL_up, pk_uLs, pk_uLn, b01_1, b01_0, b01_1s, b01_0s, or_b, mm200, mu200, mm201, mu201, mm202, mu202, mm203, mu203, mm204, mu204, mm205, mu205, mm206, mu206, mm207, mu207, mm208, mu208, mm209, mu209, mm210, mu210, mm211, mu211, mm212, mu212, mm213, mu213, mm214, mu214, mm215, mu215, mm216, mu216, mm217, mu217, mm218, mu218, mm219, mu219, mm220, mu220, mm221, mu221, mm222, mu222, mm223, mu223, mm224, mu224, mm225, mu225, mm226, mu226, mm227, mu227, mm228, mu228, mm229, mu229, mm230, mu230, k2, a12, bitOf_eq, e1, hso, bestR, ← es, ← es0, g1, g2, show ¬ S ≤ q by omega, show ¬ s0 < 0 by omega]
          exact Iff.of_eq i1
        · simp (disch := omega) [w255_0, w255_1, x255_2, w255_5, w255_6, x255_7, w255_10, w255_13, w255_14, w255_15, w255_16, w255_17, w255_18, w255_20, x255_21, w255_24, w255_25, w255_26, w255_29, x255_30, w255_33, w255_36, w255_37, w255_38, w255_39, x255_40, w255_43, w255_46, w255_47, w255_50, w255_51, x255_52, w255_55, w255_56, x255_57, w255_60, w255_63, w255_64, w255_65, w255_68, w255_71, w255_72, rt255, aw_st, ai_cls, ai_len, ai_p, ai_sw, ai_m, ai_c, ai_at, ai_isI, ai_isJ, ai_isA, ai_ld, ai_1i, ai_2i, ai_2l, ai_cn, ai_j, ai_set, ai_set2, ai_nl, ai_rs, ai_sm, Value.category, hk0, hk1, lits, litb, litm, litm2, or_n0, bit_r, fi0, fi1, fi2, fi3, nI_toInt, nI_add, pk_mul, nI_leI, nI_ltI, nI_eq, pk_sub, ib_nI, nI_clamp, va_up_self, va_up_ne, va_up_up, va_up_comm, pk_us, pk_un, upd_up, updL_up, pk_uLs, pk_uLn, b01_1, b01_0, b01_1s, b01_0s, or_b, mm200, mu200, mm201, mu201, mm202, mu202, mm203, mu203, mm204, mu204, mm205, mu205, mm206, mu206, mm207, mu207, mm208, mu208, mm209, mu209, mm210, mu210, mm211, mu211, mm212, mu212, mm213, mu213, mm214, mu214, mm215, mu215, mm216, mu216, mm217, mu217, mm218, mu218, mm219, mu219, mm220, mu220, mm221, mu221, mm222, mu222, mm223, mu223, mm224, mu224, mm225, mu225, mm226, mu226, mm227, mu227, mm228, mu228, mm229, mu229, mm230, mu230, k2, a12, bitOf_eq, e1, hso, bestR, ← es, ← es0, g1, g2, show ¬ S ≤ q by omega, show ¬ s0 < 0 by omega]
          exact Iff.of_eq i2
    · have es : saleI l k P q x = mi1 := if_neg e1
      have i2 := ih (q + 1) st mo (by omega) hs
      have c : ¬ mo < mi1 := by
        rcases hs with ⟨rfl, rfl⟩ | ⟨s0, hs0, hb0, rfl, rfl⟩
        · decide
        · obtain ⟨v, hv, ev⟩ := saleI_nat hB hs0 hP hb0
          rw [ev]
          exact not_lt_mi1 (by omega)
      simp (disch := omega) [w255_0, w255_1, x255_2, w255_5, w255_6, x255_7, w255_10, w255_13, w255_14, w255_15, w255_16, w255_17, w255_18, w255_20, x255_21, w255_24, w255_25, w255_26, w255_29, x255_30, w255_33, w255_36, w255_37, w255_38, w255_39, x255_40, w255_43, w255_46, w255_47, w255_50, w255_51, x255_52, w255_55, w255_56, x255_57, w255_60, w255_63, w255_64, w255_65, w255_68, w255_71, w255_72, rt255, aw_st, ai_cls, ai_len, ai_p, ai_sw, ai_m, ai_c, ai_at, ai_isI, ai_isJ, ai_isA, ai_ld, ai_1i, ai_2i, ai_2l, ai_cn, ai_j, ai_set, ai_set2, ai_nl, ai_rs, ai_sm, Value.category, hk0, hk1, lits, litb, litm, litm2, or_n0, bit_r, fi0, fi1, fi2, fi3, nI_toInt, nI_add, pk_mul, nI_leI, nI_ltI, nI_eq, pk_sub, ib_nI, nI_clamp, va_up_self, va_up_ne, va_up_up, va_up_comm, pk_us, pk_un, upd_up, updL_up, pk_uLs, pk_uLn, b01_1, b01_0, b01_1s, b01_0s, or_b, mm200, mu200, mm201, mu201, mm202, mu202, mm203, mu203, mm204, mu204, mm205, mu205, mm206, mu206, mm207, mu207, mm208, mu208, mm209, mu209, mm210, mu210, mm211, mu211, mm212, mu212, mm213, mu213, mm214, mu214, mm215, mu215, mm216, mu216, mm217, mu217, mm218, mu218, mm219, mu219, mm220, mu220, mm221, mu221, mm222, mu222, mm223, mu223, mm224, mu224, mm225, mu225, mm226, mu226, mm227, mu227, mm228, mu228, mm229, mu229, mm230, mu230, k2, a12, bitOf_eq, e1, bestR, es, c, show ¬ S ≤ q by omega]
      exact Iff.of_eq i2
def bestV (P S : Nat) (l k : Nat → Nat → Int32) (x : Int32) : Int32 := if pI P x = true then bestR l k P x 0 S mi1 mi1 else mi1
set_option maxHeartbeats 4000000 in
theorem best_eq (h : LSb (X 201) l) (hk : KS (X 201) k P S) (hB : SB l k S) {x : Int32} : aw ET G (d + 3) 255 0 [some (.ref 199), some (.int x), none, none] [] 231 sl (mem X Y) Q = Q [.int (bestV P S l k x)] 231 sl (mem (tz X) Y) := by
  have hP := hk.1
  have k1 := hk.2.2.2.2.1
  have hp : ∀ (x : Int32) (Q : List Value → Nat → Nat → ai_M → Prop), aw ET G (d + 2) 201 0 [some (.ref 199), some (.int x)] [] 231 sl (mem (va_up X 199 (upd (X 199) 0 (nI 0))) Y) Q = Q [.int (b01 (pI P x = true))] 231 sl (mem (va_up X 199 (upd (X 199) 0 (nI 0))) Y) := fun x Q => isPerson_eq (X := (va_up X 199 (upd (X 199) 0 (nI 0)))) hP k1
  unfold bestV tz
  cases hx : pI P x
  · simp (disch := omega) [w255_0, w255_1, x255_2, w255_5, w255_6, x255_7, w255_10, w255_13, w255_14, w255_15, w255_16, w255_17, w255_18, w255_20, x255_21, w255_24, w255_25, w255_26, w255_29, x255_30, w255_33, w255_36, w255_37, w255_38, w255_39, x255_40, w255_43, w255_46, w255_47, w255_50, w255_51, x255_52, w255_55, w255_56, x255_57, w255_60, w255_63, w255_64, w255_65, w255_68, w255_71, w255_72, rt255, aw_st, ai_cls, ai_len, ai_p, ai_sw, ai_m, ai_c, ai_at, ai_isI, ai_isJ, ai_isA, ai_ld, ai_1i, ai_2i, ai_2l, ai_cn, ai_j, ai_set, ai_set2, ai_nl, ai_rs, ai_sm, Value.category, hk0, hk1, lits, litb, litm, litm2, or_n0, bit_r, fi0, fi1, fi2, fi3, nI_toInt, nI_add, pk_mul, nI_leI, nI_ltI, nI_eq, pk_sub, ib_nI, nI_clamp, va_up_self, va_up_ne, va_up_up, va_up_comm, pk_us, pk_un, upd_up, updL_up, pk_uLs, pk_uLn, b01_1, b01_0, b01_1s, b01_0s, or_b, mm200, mu200, mm201, mu201, mm202, mu202, mm203, mu203, mm204, mu204, mm205, mu205, mm206, mu206, mm207, mu207, mm208, mu208, mm209, mu209, mm210, mu210, mm211, mu211, mm212, mu212, mm213, mu213, mm214, mu214, mm215, mu215, mm216, mu216, mm217, mu217, mm218, mu218, mm219, mu219, mm220, mu220, mm221, mu221, mm222, mu222, mm223, mu223, mm224, mu224, mm225, mu225, mm226, mu226, mm227, mu227, mm228, mu228, mm229, mu229, mm230, mu230, hp, hx]
  · have := best_loop (G := G) (d := d) (sl := sl) (Q := Q) (Y := Y) (X := (va_up X 199 (upd (X 199) 0 (nI 0)))) h hk hB (x := x) S 0 mi1 mi1 (by omega) (Or.inl ⟨rfl, rfl⟩)
    simp (disch := omega) [w255_0, w255_1, x255_2, w255_5, w255_6, x255_7, w255_10, w255_13, w255_14, w255_15, w255_16, w255_17, w255_18, w255_20, x255_21, w255_24, w255_25, w255_26, w255_29, x255_30, w255_33, w255_36, w255_37, w255_38, w255_39, x255_40, w255_43, w255_46, w255_47, w255_50, w255_51, x255_52, w255_55, w255_56, x255_57, w255_60, w255_63, w255_64, w255_65, w255_68, w255_71, w255_72, rt255, aw_st, ai_cls, ai_len, ai_p, ai_sw, ai_m, ai_c, ai_at, ai_isI, ai_isJ, ai_isA, ai_ld, ai_1i, ai_2i, ai_2l, ai_cn, ai_j, ai_set, ai_set2, ai_nl, ai_rs, ai_sm, Value.category, hk0, hk1, lits, litb, litm, litm2, or_n0, bit_r, fi0, fi1, fi2, fi3, nI_toInt, nI_add, pk_mul, nI_leI, nI_ltI, nI_eq, pk_sub, ib_nI, nI_clamp, va_up_self, va_up_ne, va_up_up, va_up_comm, pk_us, pk_un, upd_up, updL_up, pk_uLs, pk_uLn, b01_1, b01_0, b01_1s, b01_0s, or_b, mm200, mu200, mm201, mu201, mm202, mu202, mm203, mu203, mm204, mu204, mm205, mu205, mm206, mu206, mm207, mu207, mm208, mu208, mm209, mu209, mm210, mu210, mm211, mu211, mm212, mu212, mm213, mu213, mm214, mu214, mm215, mu215, mm216, mu216, mm217, mu217, mm218, mu218, mm219, mu219, mm220, mu220, mm221, mu221, mm222, mu222, mm223, mu223, mm224, mu224, mm225, mu225, mm226, mu226, mm227, mu227, mm228, mu228, mm229, mu229, mm230, mu230, hp, hx, this]
end RFH
