/-! PRICES, PRICE, WANTS, WITH: both -/
section PRH
variable {G : ai_G} {d n sl : Nat} {Q : List Value → Nat → Nat → ai_M → Prop} {l k : Nat → Nat → Int32} {P S : Nat} {Y : mY} {X : mX}
def okPr (P : Nat) (x : Int32) : Bool := inI 1 9 x && decide (0 < P)
set_option maxHeartbeats 4000000 in
theorem rprices_wp {x : Int32} (hL : LSb (X 201) l) (hk : KS (X 201) k P S) (hQ0 : okPr P x = false → Q [.int mi1] 231 sl (mem (tz X) Y)) (hQ1 : okPr P x = true → ∀ p2 w2 a2, (∀ q, q < P → p2 q = (priR l k P x 499 (fun _ => 0) 0).1 q) → (∀ q, q < P → w2 q = wantP l k (priR l k P x 499 (fun _ => 0) 0).2.1 P q) → Q [.int (nI (priR l k P x 499 (fun _ => 0) 0).2.2)] 231 sl (mem (rpX (va_up X 199 (upd (upd (X 199) 0 0) 38 (nI P))) p2 w2 a2) Y)) : aw ET G (d + 1) 242 0 [some (.ref 199), some (.int x), none, none, none, none, none] [] 231 sl (mem X Y) Q := by
  have a5 := hL.2.2.2.2.1
  obtain ⟨hP, hS, kP, kS, k1, k2, k3, k4, k5, -⟩ := hk
  cases h1 : inI 1 9 x
  · have h1' : inI (nI 1) (nI 9) x = false := h1
    have := hQ0 (by unfold okPr; rw [h1]; rfl)
    simp (disch := omega) [w242_0, w242_1, x242_2, w242_5, x242_6, w242_9, w242_10, w242_11, w242_12, w242_13, w242_14, x242_16, w242_19, w242_26, w242_27, rt242, aw_st, ai_cls, ai_len, ai_p, ai_sw, ai_m, ai_c, ai_at, ai_isI, ai_isJ, ai_isA, ai_ld, ai_1i, ai_2i, ai_2l, ai_cn, ai_j, ai_set, ai_set2, ai_nl, ai_rs, ai_sm, Value.category, hk0, hk1, lits, litb, litm, litm2, List.getElem?_cons_zero, List.getElem?_cons_succ, or_n0, bit_r, fi0, fi1, fi2, fi3, nI_toInt, nI_add, pk_mul, nI_leI, nI_ltI, nI_eq, pk_sub, ib_nI, nI_clamp, va_up_self, va_up_ne, va_up_up, va_up_comm, pk_us, pk_un, upd_up, updL_up, pk_uLs, pk_uLn, b01_1, b01_0, b01_1s, b01_0s, or_b, mm200, mu200, mm201, mu201, mm202, mu202, mm203, mu203, mm204, mu204, mm205, mu205, mm206, mu206, mm207, mu207, mm208, mu208, mm209, mu209, mm210, mu210, mm211, mu211, mm212, mu212, mm213, mu213, mm214, mu214, mm215, mu215, mm216, mu216, mm217, mu217, mm218, mu218, mm219, mu219, mm220, mu220, mm221, mu221, mm222, mu222, mm223, mu223, mm224, mu224, mm225, mu225, mm226, mu226, mm227, mu227, mm228, mu228, mm229, mu229, mm230, mu230, k1, isIn_eq, h1']
    exact this
  · have h1' : inI (nI 1) (nI 9) x = true := h1
    by_cases h2 : P = 0
    · have := hQ0 (by unfold okPr; rw [h1]; simp [h2])
      simp (disch := omega) [w242_0, w242_1, x242_2, w242_5, x242_6, w242_9, w242_10, w242_11, w242_12, w242_13, w242_14, x242_16, w242_19, w242_22, w242_23, w242_26, w242_27, rt242, aw_st, ai_cls, ai_len, ai_p, ai_sw, ai_m, ai_c, ai_at, ai_isI, ai_isJ, ai_isA, ai_ld, ai_1i, ai_2i, ai_2l, ai_cn, ai_j, ai_set, ai_set2, ai_nl, ai_rs, ai_sm, Value.category, hk0, hk1, lits, litb, litm, litm2, List.getElem?_cons_zero, List.getElem?_cons_succ, or_n0, bit_r, fi0, fi1, fi2, fi3, nI_toInt, nI_add, pk_mul, nI_leI, nI_ltI, nI_eq, pk_sub, ib_nI, nI_clamp, va_up_self, va_up_ne, va_up_up, va_up_comm, pk_us, pk_un, upd_up, updL_up, pk_uLs, pk_uLn, b01_1, b01_0, b01_1s, b01_0s, or_b, mm200, mu200, mm201, mu201, mm202, mu202, mm203, mu203, mm204, mu204, mm205, mu205, mm206, mu206, mm207, mu207, mm208, mu208, mm209, mu209, mm210, mu210, mm211, mu211, mm212, mu212, mm213, mu213, mm214, mu214, mm215, mu215, mm216, mu216, mm217, mu217, mm218, mu218, mm219, mu219, mm220, mu220, mm221, mu221, mm222, mu222, mm223, mu223, mm224, mu224, mm225, mu225, mm226, mu226, mm227, mu227, mm228, mu228, mm229, mu229, mm230, mu230, k1, isIn_eq, h1', h2]
      exact this
    · have hq := hQ1 (by unfold okPr; rw [h1]; simp; omega)
      simp (disch := omega) [w242_0, w242_1, x242_2, w242_5, x242_6, w242_9, w242_10, w242_11, w242_12, w242_13, w242_14, x242_16, w242_19, w242_22, w242_23, w242_28, w242_29, rt242, aw_st, ai_cls, ai_len, ai_p, ai_sw, ai_m, ai_c, ai_at, ai_isI, ai_isJ, ai_isA, ai_ld, ai_1i, ai_2i, ai_2l, ai_cn, ai_j, ai_set, ai_set2, ai_nl, ai_rs, ai_sm, Value.category, hk0, hk1, lits, litb, litm, litm2, List.getElem?_cons_zero, List.getElem?_cons_succ, or_n0, bit_r, fi0, fi1, fi2, fi3, nI_toInt, nI_add, pk_mul, nI_leI, nI_ltI, nI_eq, pk_sub, ib_nI, nI_clamp, va_up_self, va_up_ne, va_up_up, va_up_comm, pk_us, pk_un, upd_up, updL_up, pk_uLs, pk_uLn, b01_1, b01_0, b01_1s, b01_0s, or_b, mm200, mu200, mm201, mu201, mm202, mu202, mm203, mu203, mm204, mu204, mm205, mu205, mm206, mu206, mm207, mu207, mm208, mu208, mm209, mu209, mm210, mu210, mm211, mu211, mm212, mu212, mm213, mu213, mm214, mu214, mm215, mu215, mm216, mu216, mm217, mu217, mm218, mu218, mm219, mu219, mm220, mu220, mm221, mu221, mm222, mu222, mm223, mu223, mm224, mu224, mm225, mu225, mm226, mu226, mm227, mu227, mm228, mu228, mm229, mu229, mm230, mu230, k1, isIn_eq, h1', h2]
      have e : rpX (va_up X 199 (upd (X 199) 0 (nI 0))) (X 213) (X 214) (X 215) = (va_up X 199 (upd (X 199) 0 (nI 0))) := by
        funext j
        simp only [rpX, va_up]
        by_cases c1 : j = 215
        · subst c1; simp
        · by_cases c2 : j = 214
          · subst c2; simp
          · by_cases c3 : j = 213
            · subst c3; simp
            · simp [c1, c2, c3]
      have hz := rp_zero (G := G) (d := d + 1) (sl := sl) (Q := Q) (Y := Y) (X := (va_up X 199 (upd (X 199) 0 (nI 0)))) (P := P) (step := x) (w := X 214) (ak := X 215) 8 0 (X 213) (by omega) (fun q hq => by omega) (fun pr' h0 => by
        have hr := rp_rounds (G := G) (d := d + 1) (sl := sl) (Q := Q) (Y := Y) (X := (va_up X 199 (upd (X 199) 0 (nI 0)))) (step := x) (l := l) (k := k) hP k5 a5 499 0 pr' (fun _ => 0) (X 214) (X 215) none none (by omega) (fun q hq => h0 q (by omega)) (fun p2 w2 a2 e1 e2 => by
          have := hq p2 w2 a2 e1 e2
          rw [va_up_self, va_up_up]
          exact this)
        simp (disch := omega) [w242_49, w242_50, w242_51, w242_52, aw_st, ai_cls, ai_len, ai_p, ai_sw, ai_m, ai_c, ai_at, ai_isI, ai_isJ, ai_isA, ai_ld, ai_1i, ai_2i, ai_2l, ai_cn, ai_j, ai_set, ai_set2, ai_nl, ai_rs, ai_sm, Value.category, hk0, hk1, lits, litb, litm, litm2, List.getElem?_cons_zero, List.getElem?_cons_succ, or_n0, bit_r, fi0, fi1, fi2, fi3, nI_toInt, nI_add, pk_mul, nI_leI, nI_ltI, nI_eq, pk_sub, ib_nI, nI_clamp, va_up_self, va_up_ne, va_up_up, va_up_comm, pk_us, pk_un, upd_up, updL_up, pk_uLs, pk_uLn, b01_1, b01_0, b01_1s, b01_0s, or_b, mm200, mu200, mm201, mu201, mm202, mu202, mm203, mu203, mm204, mu204, mm205, mu205, mm206, mu206, mm207, mu207, mm208, mu208, mm209, mu209, mm210, mu210, mm211, mu211, mm212, mu212, mm213, mu213, mm214, mu214, mm215, mu215, mm216, mu216, mm217, mu217, mm218, mu218, mm219, mu219, mm220, mu220, mm221, mu221, mm222, mu222, mm223, mu223, mm224, mu224, mm225, mu225, mm226, mu226, mm227, mu227, mm228, mu228, mm229, mu229, mm230, mu230]
        exact hr)
      rw [e] at hz
      exact hz
set_option maxHeartbeats 4000000 in
theorem prices_wp {x : Int32} (hP : P ≤ 8) (hk : X 47 7 = nI P) (he : ∀ q, q < P → X 49 q = k 1 q) (hn : ∀ p, p < P → X 62 p = l 1 p) (hQ0 : okPr P x = false → Q [.int mi1] 231 sl (mem X Y)) (hQ1 : okPr P x = true → ∀ p2 w2 h2, (∀ q, q < P → p2 q = (priR l k P x 499 (fun _ => 0) 0).1 q) → (∀ q, q < P → w2 q = wantP l k (priR l k P x 499 (fun _ => 0) 0).2.1 P q) → Q [.int (nI (priR l k P x 499 (fun _ => 0) 0).2.2)] 231 sl (mem (prX (va_up X 38 (upd (X 38) 3 (nI P))) p2 w2 h2) Y)) : aw ET G (d + 3) 105 0 [some (.ref 0), some (.int x)] [] 231 sl (mem X Y) Q := by
  unfold okPr at hQ0 hQ1
  simp only [inI_lt] at hQ0 hQ1
  rcases lt_or x (nI 1) with ⟨a1, a2⟩ | ⟨a1, a2⟩
  · have a1' : x < 1 := a1
    have := hQ0 (by simp [a1'])
    simp (disch := omega) [w105_0, w105_1, w105_2, w105_5, w105_6, w105_8, w105_11, x105_12_0, x105_15_55, x105_18_47, w105_21, w105_24, w105_25, w105_26, x105_27_0, w105_30, x105_31_0, x105_34_55, w105_37, x105_38_38, w105_41, rt105, aw_st, ai_cls, ai_len, ai_p, ai_sw, ai_m, ai_c, ai_at, ai_isI, ai_isJ, ai_isA, ai_ld, ai_1i, ai_2i, ai_2l, ai_cn, ai_j, ai_set, ai_set2, ai_nl, ai_rs, ai_sm, Value.category, hk0, hk1, lits, litb, litm, litm2, List.getElem?_cons_zero, List.getElem?_cons_succ, or_n0, bit_r, fi0, fi1, fi2, fi3, nI_toInt, nI_add, pk_mul, nI_leI, nI_ltI, nI_eq, pk_sub, ib_nI, nI_clamp, va_up_self, va_up_ne, va_up_up, va_up_comm, pk_us, pk_un, upd_up, updL_up, pk_uLs, pk_uLn, b01_1, b01_0, b01_1s, b01_0s, or_b, a1, a2]
    exact this
  · rcases lt_or (nI 9) x with ⟨b1, b2⟩ | ⟨b1, b2⟩
    · have b1' : (9 : Int32) < x := b1
      have := hQ0 (by simp [b1'])
      simp (disch := omega) [w105_0, w105_1, w105_2, w105_5, w105_6, w105_8, w105_11, x105_12_0, x105_15_55, x105_18_47, w105_21, w105_24, w105_25, w105_26, x105_27_0, w105_30, x105_31_0, x105_34_55, w105_37, x105_38_38, w105_41, rt105, aw_st, ai_cls, ai_len, ai_p, ai_sw, ai_m, ai_c, ai_at, ai_isI, ai_isJ, ai_isA, ai_ld, ai_1i, ai_2i, ai_2l, ai_cn, ai_j, ai_set, ai_set2, ai_nl, ai_rs, ai_sm, Value.category, hk0, hk1, lits, litb, litm, litm2, List.getElem?_cons_zero, List.getElem?_cons_succ, or_n0, bit_r, fi0, fi1, fi2, fi3, nI_toInt, nI_add, pk_mul, nI_leI, nI_ltI, nI_eq, pk_sub, ib_nI, nI_clamp, va_up_self, va_up_ne, va_up_up, va_up_comm, pk_us, pk_un, upd_up, updL_up, pk_uLs, pk_uLn, b01_1, b01_0, b01_1s, b01_0s, or_b, a1, a2, b1, b2]
      exact this
    · by_cases h0 : P = 0
      · have := hQ0 (by simp [h0])
        simp (disch := omega) [w105_0, w105_1, w105_2, w105_5, w105_6, w105_8, w105_11, x105_12_0, x105_15_55, x105_18_47, w105_21, w105_24, w105_25, w105_26, x105_27_0, w105_30, x105_31_0, x105_34_55, w105_37, x105_38_38, w105_41, rt105, aw_st, ai_cls, ai_len, ai_p, ai_sw, ai_m, ai_c, ai_at, ai_isI, ai_isJ, ai_isA, ai_ld, ai_1i, ai_2i, ai_2l, ai_cn, ai_j, ai_set, ai_set2, ai_nl, ai_rs, ai_sm, Value.category, hk0, hk1, lits, litb, litm, litm2, List.getElem?_cons_zero, List.getElem?_cons_succ, or_n0, bit_r, fi0, fi1, fi2, fi3, nI_toInt, nI_add, pk_mul, nI_leI, nI_ltI, nI_eq, pk_sub, ib_nI, nI_clamp, va_up_self, va_up_ne, va_up_up, va_up_comm, pk_us, pk_un, upd_up, updL_up, pk_uLs, pk_uLn, b01_1, b01_0, b01_1s, b01_0s, or_b, a1, a2, b1, b2, hk, h0]
        exact this
      · have a1' : ¬ x < 1 := a1
        have b1' : ¬ (9 : Int32) < x := b1
        have hq := hQ1 (by simp only [a1', b1', not_false_eq_true, decide_true, Bool.and_self, Bool.true_and, decide_eq_true_eq]; omega)
        simp (disch := omega) [w105_0, w105_1, w105_2, w105_5, w105_6, w105_8, w105_11, x105_12_0, x105_15_55, x105_18_47, w105_21, w105_24, w105_25, w105_26, x105_27_0, w105_30, x105_31_0, x105_34_55, w105_37, x105_38_38, w105_41, rt105, aw_st, ai_cls, ai_len, ai_p, ai_sw, ai_m, ai_c, ai_at, ai_isI, ai_isJ, ai_isA, ai_ld, ai_1i, ai_2i, ai_2l, ai_cn, ai_j, ai_set, ai_set2, ai_nl, ai_rs, ai_sm, Value.category, hk0, hk1, lits, litb, litm, litm2, List.getElem?_cons_zero, List.getElem?_cons_succ, or_n0, bit_r, fi0, fi1, fi2, fi3, nI_toInt, nI_add, pk_mul, nI_leI, nI_ltI, nI_eq, pk_sub, ib_nI, nI_clamp, va_up_self, va_up_ne, va_up_up, va_up_comm, pk_us, pk_un, upd_up, updL_up, pk_uLs, pk_uLn, b01_1, b01_0, b01_1s, b01_0s, or_b, a1, a2, b1, b2, hk, h0]
        refine settle_wp (X := X) (l := l) (k := k) hP hk he hn ?_
        intro p2 w2 h2 e1 e2
        simp (disch := omega) [w105_0, w105_1, w105_2, w105_5, w105_6, w105_8, w105_11, x105_12_0, x105_15_55, x105_18_47, w105_21, w105_24, w105_25, w105_26, x105_27_0, w105_30, x105_31_0, x105_34_55, w105_37, x105_38_38, w105_41, rt105, aw_st, ai_cls, ai_len, ai_p, ai_sw, ai_m, ai_c, ai_at, ai_isI, ai_isJ, ai_isA, ai_ld, ai_1i, ai_2i, ai_2l, ai_cn, ai_j, ai_set, ai_set2, ai_nl, ai_rs, ai_sm, Value.category, hk0, hk1, lits, litb, litm, litm2, List.getElem?_cons_zero, List.getElem?_cons_succ, or_n0, bit_r, fi0, fi1, fi2, fi3, nI_toInt, nI_add, pk_mul, nI_leI, nI_ltI, nI_eq, pk_sub, ib_nI, nI_clamp, va_up_self, va_up_ne, va_up_up, va_up_comm, pk_us, pk_un, upd_up, updL_up, pk_uLs, pk_uLn, b01_1, b01_0, b01_1s, b01_0s, or_b]
        exact hq p2 w2 h2 e1 e2
/-- so many, NONE ahead of any -/
def PN (x : Int32) (P : Nat) : Prop := P ≤ 8 ∧ (x = nI P ∨ (P = 0 ∧ x = mi1))
theorem PN_pI {x : Int32} {P : Nat} (h : PN x P) {y : Int32} : inI (nI 0) (x - nI 1) y = pI P y := by
  obtain ⟨h1, h2 | ⟨h2, h3⟩⟩ := h
  · rw [h2]; exact pI_in (by omega)
  · subst h2; subst h3
    cases e : pI 0 y
    · unfold inI
      rw [decide_eq_false_iff_not]
      rintro ⟨q1, q2⟩
      exact absurd (Int32.le_trans q1 q2) (by decide)
    · obtain ⟨p, hp, -⟩ := (pI_nat (by omega)).mp e
      omega
theorem PN_lt {x : Int32} {P : Nat} (h : PN x P) {y : Int32} : pI P y = (decide (¬ y < nI 0) && decide (y < x)) := by
  obtain ⟨h1, h2 | ⟨h2, h3⟩⟩ := h
  · rw [h2]; unfold pI
    rw [Bool.eq_iff_iff]
    simp
    intro _; rfl
  · subst h2; subst h3
    cases e : pI 0 y
    · rcases lt_or y (nI 0) with ⟨a1, a2⟩ | ⟨a1, a2⟩
      · simp [a1]
      · have : ¬ y < mi1 := by
          rw [Int32.not_lt]
          exact Int32.le_trans (by decide) a2
        simp [this]
    · obtain ⟨p, hp, -⟩ := (pI_nat (by omega)).mp e
      omega
theorem rprice_eq {x : Int32} {PP : Nat} (h : PN (X 199 38) PP) : aw ET G (d + 1) 243 0 [some (.ref 199), some (.int x)] [] 231 sl (mem X Y) Q = Q [.int (if pI PP x = true then X 213 (iN x) else mi1)] 231 sl (mem (tz X) Y) := by
  have hp := PN_pI h (y := x)
  have h8 := h.1
  unfold tz
  cases hx : pI PP x
  · rw [hx] at hp
    simp (disch := omega) [w243_0, w243_1, x243_2, w243_5, w243_6, w243_7, x243_8, w243_11, w243_12, x243_13, w243_16, w243_19, x243_20, w243_23, w243_24, w243_25, w243_28, w243_29, rt243, aw_st, ai_cls, ai_len, ai_p, ai_sw, ai_m, ai_c, ai_at, ai_isI, ai_isJ, ai_isA, ai_ld, ai_1i, ai_2i, ai_2l, ai_cn, ai_j, ai_set, ai_set2, ai_nl, ai_rs, ai_sm, Value.category, hk0, hk1, lits, litb, litm, litm2, List.getElem?_cons_zero, List.getElem?_cons_succ, or_n0, bit_r, fi0, fi1, fi2, fi3, nI_toInt, nI_add, pk_mul, nI_leI, nI_ltI, nI_eq, pk_sub, ib_nI, nI_clamp, va_up_self, va_up_ne, va_up_up, va_up_comm, pk_us, pk_un, upd_up, updL_up, pk_uLs, pk_uLn, b01_1, b01_0, b01_1s, b01_0s, or_b, mm200, mu200, mm201, mu201, mm202, mu202, mm203, mu203, mm204, mu204, mm205, mu205, mm206, mu206, mm207, mu207, mm208, mu208, mm209, mu209, mm210, mu210, mm211, mu211, mm212, mu212, mm213, mu213, mm214, mu214, mm215, mu215, mm216, mu216, mm217, mu217, mm218, mu218, mm219, mu219, mm220, mu220, mm221, mu221, mm222, mu222, mm223, mu223, mm224, mu224, mm225, mu225, mm226, mu226, mm227, mu227, mm228, mu228, mm229, mu229, mm230, mu230, isIn_eq, hp]
  · rw [hx] at hp
    obtain ⟨a, ha, rfl⟩ := (pI_nat (by omega)).mp hx
    simp (disch := omega) [w243_0, w243_1, x243_2, w243_5, w243_6, w243_7, x243_8, w243_11, w243_12, x243_13, w243_16, w243_19, x243_20, w243_23, w243_24, w243_25, w243_28, w243_29, rt243, aw_st, ai_cls, ai_len, ai_p, ai_sw, ai_m, ai_c, ai_at, ai_isI, ai_isJ, ai_isA, ai_ld, ai_1i, ai_2i, ai_2l, ai_cn, ai_j, ai_set, ai_set2, ai_nl, ai_rs, ai_sm, Value.category, hk0, hk1, lits, litb, litm, litm2, List.getElem?_cons_zero, List.getElem?_cons_succ, or_n0, bit_r, fi0, fi1, fi2, fi3, nI_toInt, nI_add, pk_mul, nI_leI, nI_ltI, nI_eq, pk_sub, ib_nI, nI_clamp, va_up_self, va_up_ne, va_up_up, va_up_comm, pk_us, pk_un, upd_up, updL_up, pk_uLs, pk_uLn, b01_1, b01_0, b01_1s, b01_0s, or_b, mm200, mu200, mm201, mu201, mm202, mu202, mm203, mu203, mm204, mu204, mm205, mu205, mm206, mu206, mm207, mu207, mm208, mu208, mm209, mu209, mm210, mu210, mm211, mu211, mm212, mu212, mm213, mu213, mm214, mu214, mm215, mu215, mm216, mu216, mm217, mu217, mm218, mu218, mm219, mu219, mm220, mu220, mm221, mu221, mm222, mu222, mm223, mu223, mm224, mu224, mm225, mu225, mm226, mu226, mm227, mu227, mm228, mu228, mm229, mu229, mm230, mu230, isIn_eq, hp, iN_nI]
theorem rwants_eq {x : Int32} {PP : Nat} (h : PN (X 199 38) PP) : aw ET G (d + 1) 244 0 [some (.ref 199), some (.int x)] [] 231 sl (mem X Y) Q = Q [.int (if pI PP x = true then X 214 (iN x) else mi1)] 231 sl (mem (tz X) Y) := by
  have hp := PN_pI h (y := x)
  have h8 := h.1
  unfold tz
  cases hx : pI PP x
  · rw [hx] at hp
    simp (disch := omega) [w244_0, w244_1, x244_2, w244_5, w244_6, w244_7, x244_8, w244_11, w244_12, x244_13, w244_16, w244_19, x244_20, w244_23, w244_24, w244_25, w244_28, w244_29, rt244, aw_st, ai_cls, ai_len, ai_p, ai_sw, ai_m, ai_c, ai_at, ai_isI, ai_isJ, ai_isA, ai_ld, ai_1i, ai_2i, ai_2l, ai_cn, ai_j, ai_set, ai_set2, ai_nl, ai_rs, ai_sm, Value.category, hk0, hk1, lits, litb, litm, litm2, List.getElem?_cons_zero, List.getElem?_cons_succ, or_n0, bit_r, fi0, fi1, fi2, fi3, nI_toInt, nI_add, pk_mul, nI_leI, nI_ltI, nI_eq, pk_sub, ib_nI, nI_clamp, va_up_self, va_up_ne, va_up_up, va_up_comm, pk_us, pk_un, upd_up, updL_up, pk_uLs, pk_uLn, b01_1, b01_0, b01_1s, b01_0s, or_b, mm200, mu200, mm201, mu201, mm202, mu202, mm203, mu203, mm204, mu204, mm205, mu205, mm206, mu206, mm207, mu207, mm208, mu208, mm209, mu209, mm210, mu210, mm211, mu211, mm212, mu212, mm213, mu213, mm214, mu214, mm215, mu215, mm216, mu216, mm217, mu217, mm218, mu218, mm219, mu219, mm220, mu220, mm221, mu221, mm222, mu222, mm223, mu223, mm224, mu224, mm225, mu225, mm226, mu226, mm227, mu227, mm228, mu228, mm229, mu229, mm230, mu230, isIn_eq, hp]
  · rw [hx] at hp
    obtain ⟨a, ha, rfl⟩ := (pI_nat (by omega)).mp hx
    simp (disch := omega) [w244_0, w244_1, x244_2, w244_5, w244_6, w244_7, x244_8, w244_11, w244_12, x244_13, w244_16, w244_19, x244_20, w244_23, w244_24, w244_25, w244_28, w244_29, rt244, aw_st, ai_cls, ai_len, ai_p, ai_sw, ai_m, ai_c, ai_at, ai_isI, ai_isJ, ai_isA, ai_ld, ai_1i, ai_2i, ai_2l, ai_cn, ai_j, ai_set, ai_set2, ai_nl, ai_rs, ai_sm, Value.category, hk0, hk1, lits, litb, litm, litm2, List.getElem?_cons_zero, List.getElem?_cons_succ, or_n0, bit_r, fi0, fi1, fi2, fi3, nI_toInt, nI_add, pk_mul, nI_leI, nI_ltI, nI_eq, pk_sub, ib_nI, nI_clamp, va_up_self, va_up_ne, va_up_up, va_up_comm, pk_us, pk_un, upd_up, updL_up, pk_uLs, pk_uLn, b01_1, b01_0, b01_1s, b01_0s, or_b, mm200, mu200, mm201, mu201, mm202, mu202, mm203, mu203, mm204, mu204, mm205, mu205, mm206, mu206, mm207, mu207, mm208, mu208, mm209, mu209, mm210, mu210, mm211, mu211, mm212, mu212, mm213, mu213, mm214, mu214, mm215, mu215, mm216, mu216, mm217, mu217, mm218, mu218, mm219, mu219, mm220, mu220, mm221, mu221, mm222, mu222, mm223, mu223, mm224, mu224, mm225, mu225, mm226, mu226, mm227, mu227, mm228, mu228, mm229, mu229, mm230, mu230, isIn_eq, hp, iN_nI]
theorem rwith_eq {x : Int32} {PP : Nat} (h : PN (X 199 34) PP) : aw ET G (d + 1) 241 0 [some (.ref 199), some (.int x)] [] 231 sl (mem X Y) Q = Q [.int (if pI PP x = true then X 212 (iN x) else mi1)] 231 sl (mem (tz X) Y) := by
  have hp := PN_pI h (y := x)
  have h8 := h.1
  unfold tz
  cases hx : pI PP x
  · rw [hx] at hp
    simp (disch := omega) [w241_0, w241_1, x241_2, w241_5, w241_6, w241_7, x241_8, w241_11, w241_12, x241_13, w241_16, w241_19, x241_20, w241_23, w241_24, w241_25, w241_28, w241_29, rt241, aw_st, ai_cls, ai_len, ai_p, ai_sw, ai_m, ai_c, ai_at, ai_isI, ai_isJ, ai_isA, ai_ld, ai_1i, ai_2i, ai_2l, ai_cn, ai_j, ai_set, ai_set2, ai_nl, ai_rs, ai_sm, Value.category, hk0, hk1, lits, litb, litm, litm2, List.getElem?_cons_zero, List.getElem?_cons_succ, or_n0, bit_r, fi0, fi1, fi2, fi3, nI_toInt, nI_add, pk_mul, nI_leI, nI_ltI, nI_eq, pk_sub, ib_nI, nI_clamp, va_up_self, va_up_ne, va_up_up, va_up_comm, pk_us, pk_un, upd_up, updL_up, pk_uLs, pk_uLn, b01_1, b01_0, b01_1s, b01_0s, or_b, mm200, mu200, mm201, mu201, mm202, mu202, mm203, mu203, mm204, mu204, mm205, mu205, mm206, mu206, mm207, mu207, mm208, mu208, mm209, mu209, mm210, mu210, mm211, mu211, mm212, mu212, mm213, mu213, mm214, mu214, mm215, mu215, mm216, mu216, mm217, mu217, mm218, mu218, mm219, mu219, mm220, mu220, mm221, mu221, mm222, mu222, mm223, mu223, mm224, mu224, mm225, mu225, mm226, mu226, mm227, mu227, mm228, mu228, mm229, mu229, mm230, mu230, isIn_eq, hp]
  · rw [hx] at hp
    obtain ⟨a, ha, rfl⟩ := (pI_nat (by omega)).mp hx
    simp (disch := omega) [w241_0, w241_1, x241_2, w241_5, w241_6, w241_7, x241_8, w241_11, w241_12, x241_13, w241_16, w241_19, x241_20, w241_23, w241_24, w241_25, w241_28, w241_29, rt241, aw_st, ai_cls, ai_len, ai_p, ai_sw, ai_m, ai_c, ai_at, ai_isI, ai_isJ, ai_isA, ai_ld, ai_1i, ai_2i, ai_2l, ai_cn, ai_j, ai_set, ai_set2, ai_nl, ai_rs, ai_sm, Value.category, hk0, hk1, lits, litb, litm, litm2, List.getElem?_cons_zero, List.getElem?_cons_succ, or_n0, bit_r, fi0, fi1, fi2, fi3, nI_toInt, nI_add, pk_mul, nI_leI, nI_ltI, nI_eq, pk_sub, ib_nI, nI_clamp, va_up_self, va_up_ne, va_up_up, va_up_comm, pk_us, pk_un, upd_up, updL_up, pk_uLs, pk_uLn, b01_1, b01_0, b01_1s, b01_0s, or_b, mm200, mu200, mm201, mu201, mm202, mu202, mm203, mu203, mm204, mu204, mm205, mu205, mm206, mu206, mm207, mu207, mm208, mu208, mm209, mu209, mm210, mu210, mm211, mu211, mm212, mu212, mm213, mu213, mm214, mu214, mm215, mu215, mm216, mu216, mm217, mu217, mm218, mu218, mm219, mu219, mm220, mu220, mm221, mu221, mm222, mu222, mm223, mu223, mm224, mu224, mm225, mu225, mm226, mu226, mm227, mu227, mm228, mu228, mm229, mu229, mm230, mu230, isIn_eq, hp, iN_nI]
theorem price_eq {x : Int32} {PP : Nat} (h : PN (X 38 3) PP) : aw ET G d 110 0 [some (.ref 0), some (.int x)] [] 231 sl (mem X Y) Q = Q [.int (if pI PP x = true then X 39 (iN x) else mi1)] 231 sl (mem X Y) := by
  have hp := PN_lt h (y := x)
  have h8 := h.1
  rcases lt_or x (nI 0) with ⟨a1, a2⟩ | ⟨a1, a2⟩
  · simp (disch := omega) [w110_0, w110_1, w110_4, w110_5, x110_6_0, x110_9_38, w110_12, w110_15, x110_16_0, x110_19_38, w110_22, w110_23, w110_24, w110_27, w110_28, rt110, aw_st, ai_cls, ai_len, ai_p, ai_sw, ai_m, ai_c, ai_at, ai_isI, ai_isJ, ai_isA, ai_ld, ai_1i, ai_2i, ai_2l, ai_cn, ai_j, ai_set, ai_set2, ai_nl, ai_rs, ai_sm, Value.category, hk0, hk1, lits, litb, litm, litm2, List.getElem?_cons_zero, List.getElem?_cons_succ, or_n0, bit_r, fi0, fi1, fi2, fi3, nI_toInt, nI_add, pk_mul, nI_leI, nI_ltI, nI_eq, pk_sub, ib_nI, nI_clamp, va_up_self, va_up_ne, va_up_up, va_up_comm, pk_us, pk_un, upd_up, updL_up, pk_uLs, pk_uLn, b01_1, b01_0, b01_1s, b01_0s, or_b, hp, a1, a2]
  · rcases lt_or x (X 38 3) with ⟨b1, b2⟩ | ⟨b1, b2⟩
    · have hx : pI PP x = true := by rw [hp]; simp [a1, b1]
      obtain ⟨a, ha, rfl⟩ := (pI_nat (by omega)).mp hx
      simp (disch := omega) [w110_0, w110_1, w110_4, w110_5, x110_6_0, x110_9_38, w110_12, w110_15, x110_16_0, x110_19_38, w110_22, w110_23, w110_24, w110_27, w110_28, rt110, aw_st, ai_cls, ai_len, ai_p, ai_sw, ai_m, ai_c, ai_at, ai_isI, ai_isJ, ai_isA, ai_ld, ai_1i, ai_2i, ai_2l, ai_cn, ai_j, ai_set, ai_set2, ai_nl, ai_rs, ai_sm, Value.category, hk0, hk1, lits, litb, litm, litm2, List.getElem?_cons_zero, List.getElem?_cons_succ, or_n0, bit_r, fi0, fi1, fi2, fi3, nI_toInt, nI_add, pk_mul, nI_leI, nI_ltI, nI_eq, pk_sub, ib_nI, nI_clamp, va_up_self, va_up_ne, va_up_up, va_up_comm, pk_us, pk_un, upd_up, updL_up, pk_uLs, pk_uLn, b01_1, b01_0, b01_1s, b01_0s, or_b, mm39, hx, b1, b2, iN_nI]
    · simp (disch := omega) [w110_0, w110_1, w110_4, w110_5, x110_6_0, x110_9_38, w110_12, w110_15, x110_16_0, x110_19_38, w110_22, w110_23, w110_24, w110_27, w110_28, rt110, aw_st, ai_cls, ai_len, ai_p, ai_sw, ai_m, ai_c, ai_at, ai_isI, ai_isJ, ai_isA, ai_ld, ai_1i, ai_2i, ai_2l, ai_cn, ai_j, ai_set, ai_set2, ai_nl, ai_rs, ai_sm, Value.category, hk0, hk1, lits, litb, litm, litm2, List.getElem?_cons_zero, List.getElem?_cons_succ, or_n0, bit_r, fi0, fi1, fi2, fi3, nI_toInt, nI_add, pk_mul, nI_leI, nI_ltI, nI_eq, pk_sub, ib_nI, nI_clamp, va_up_self, va_up_ne, va_up_up, va_up_comm, pk_us, pk_un, upd_up, updL_up, pk_uLs, pk_uLn, b01_1, b01_0, b01_1s, b01_0s, or_b, hp, a1, a2, b1, b2]
theorem wants_eq {x : Int32} {PP : Nat} (h : PN (X 38 3) PP) : aw ET G d 111 0 [some (.ref 0), some (.int x)] [] 231 sl (mem X Y) Q = Q [.int (if pI PP x = true then X 40 (iN x) else mi1)] 231 sl (mem X Y) := by
  have hp := PN_lt h (y := x)
  have h8 := h.1
  rcases lt_or x (nI 0) with ⟨a1, a2⟩ | ⟨a1, a2⟩
  · simp (disch := omega) [w111_0, w111_1, w111_4, w111_5, x111_6_0, x111_9_38, w111_12, w111_15, x111_16_0, x111_19_38, w111_22, w111_23, w111_24, w111_27, w111_28, rt111, aw_st, ai_cls, ai_len, ai_p, ai_sw, ai_m, ai_c, ai_at, ai_isI, ai_isJ, ai_isA, ai_ld, ai_1i, ai_2i, ai_2l, ai_cn, ai_j, ai_set, ai_set2, ai_nl, ai_rs, ai_sm, Value.category, hk0, hk1, lits, litb, litm, litm2, List.getElem?_cons_zero, List.getElem?_cons_succ, or_n0, bit_r, fi0, fi1, fi2, fi3, nI_toInt, nI_add, pk_mul, nI_leI, nI_ltI, nI_eq, pk_sub, ib_nI, nI_clamp, va_up_self, va_up_ne, va_up_up, va_up_comm, pk_us, pk_un, upd_up, updL_up, pk_uLs, pk_uLn, b01_1, b01_0, b01_1s, b01_0s, or_b, hp, a1, a2]
  · rcases lt_or x (X 38 3) with ⟨b1, b2⟩ | ⟨b1, b2⟩
    · have hx : pI PP x = true := by rw [hp]; simp [a1, b1]
      obtain ⟨a, ha, rfl⟩ := (pI_nat (by omega)).mp hx
      simp (disch := omega) [w111_0, w111_1, w111_4, w111_5, x111_6_0, x111_9_38, w111_12, w111_15, x111_16_0, x111_19_38, w111_22, w111_23, w111_24, w111_27, w111_28, rt111, aw_st, ai_cls, ai_len, ai_p, ai_sw, ai_m, ai_c, ai_at, ai_isI, ai_isJ, ai_isA, ai_ld, ai_1i, ai_2i, ai_2l, ai_cn, ai_j, ai_set, ai_set2, ai_nl, ai_rs, ai_sm, Value.category, hk0, hk1, lits, litb, litm, litm2, List.getElem?_cons_zero, List.getElem?_cons_succ, or_n0, bit_r, fi0, fi1, fi2, fi3, nI_toInt, nI_add, pk_mul, nI_leI, nI_ltI, nI_eq, pk_sub, ib_nI, nI_clamp, va_up_self, va_up_ne, va_up_up, va_up_comm, pk_us, pk_un, upd_up, updL_up, pk_uLs, pk_uLn, b01_1, b01_0, b01_1s, b01_0s, or_b, mm40, hx, b1, b2, iN_nI]
    · simp (disch := omega) [w111_0, w111_1, w111_4, w111_5, x111_6_0, x111_9_38, w111_12, w111_15, x111_16_0, x111_19_38, w111_22, w111_23, w111_24, w111_27, w111_28, rt111, aw_st, ai_cls, ai_len, ai_p, ai_sw, ai_m, ai_c, ai_at, ai_isI, ai_isJ, ai_isA, ai_ld, ai_1i, ai_2i, ai_2l, ai_cn, ai_j, ai_set, ai_set2, ai_nl, ai_rs, ai_sm, Value.category, hk0, hk1, lits, litb, litm, litm2, List.getElem?_cons_zero, List.getElem?_cons_succ, or_n0, bit_r, fi0, fi1, fi2, fi3, nI_toInt, nI_add, pk_mul, nI_leI, nI_ltI, nI_eq, pk_sub, ib_nI, nI_clamp, va_up_self, va_up_ne, va_up_up, va_up_comm, pk_us, pk_un, upd_up, updL_up, pk_uLs, pk_uLn, b01_1, b01_0, b01_1s, b01_0s, or_b, hp, a1, a2, b1, b2]
theorem with_eq {x : Int32} {PP : Nat} (h : PN (X 35 3) PP) : aw ET G d 104 0 [some (.ref 0), some (.int x)] [] 231 sl (mem X Y) Q = Q [.int (if pI PP x = true then X 37 (iN x) else mi1)] 231 sl (mem X Y) := by
  have hp := PN_lt h (y := x)
  have h8 := h.1
  rcases lt_or x (nI 0) with ⟨a1, a2⟩ | ⟨a1, a2⟩
  · simp (disch := omega) [w104_0, w104_1, w104_4, w104_5, x104_6_0, x104_9_35, w104_12, w104_15, x104_16_0, x104_19_35, w104_22, w104_23, w104_24, w104_27, w104_28, rt104, aw_st, ai_cls, ai_len, ai_p, ai_sw, ai_m, ai_c, ai_at, ai_isI, ai_isJ, ai_isA, ai_ld, ai_1i, ai_2i, ai_2l, ai_cn, ai_j, ai_set, ai_set2, ai_nl, ai_rs, ai_sm, Value.category, hk0, hk1, lits, litb, litm, litm2, List.getElem?_cons_zero, List.getElem?_cons_succ, or_n0, bit_r, fi0, fi1, fi2, fi3, nI_toInt, nI_add, pk_mul, nI_leI, nI_ltI, nI_eq, pk_sub, ib_nI, nI_clamp, va_up_self, va_up_ne, va_up_up, va_up_comm, pk_us, pk_un, upd_up, updL_up, pk_uLs, pk_uLn, b01_1, b01_0, b01_1s, b01_0s, or_b, hp, a1, a2]
  · rcases lt_or x (X 35 3) with ⟨b1, b2⟩ | ⟨b1, b2⟩
    · have hx : pI PP x = true := by rw [hp]; simp [a1, b1]
      obtain ⟨a, ha, rfl⟩ := (pI_nat (by omega)).mp hx
      simp (disch := omega) [w104_0, w104_1, w104_4, w104_5, x104_6_0, x104_9_35, w104_12, w104_15, x104_16_0, x104_19_35, w104_22, w104_23, w104_24, w104_27, w104_28, rt104, aw_st, ai_cls, ai_len, ai_p, ai_sw, ai_m, ai_c, ai_at, ai_isI, ai_isJ, ai_isA, ai_ld, ai_1i, ai_2i, ai_2l, ai_cn, ai_j, ai_set, ai_set2, ai_nl, ai_rs, ai_sm, Value.category, hk0, hk1, lits, litb, litm, litm2, List.getElem?_cons_zero, List.getElem?_cons_succ, or_n0, bit_r, fi0, fi1, fi2, fi3, nI_toInt, nI_add, pk_mul, nI_leI, nI_ltI, nI_eq, pk_sub, ib_nI, nI_clamp, va_up_self, va_up_ne, va_up_up, va_up_comm, pk_us, pk_un, upd_up, updL_up, pk_uLs, pk_uLn, b01_1, b01_0, b01_1s, b01_0s, or_b, mm37, hx, b1, b2, iN_nI]
    · simp (disch := omega) [w104_0, w104_1, w104_4, w104_5, x104_6_0, x104_9_35, w104_12, w104_15, x104_16_0, x104_19_35, w104_22, w104_23, w104_24, w104_27, w104_28, rt104, aw_st, ai_cls, ai_len, ai_p, ai_sw, ai_m, ai_c, ai_at, ai_isI, ai_isJ, ai_isA, ai_ld, ai_1i, ai_2i, ai_2l, ai_cn, ai_j, ai_set, ai_set2, ai_nl, ai_rs, ai_sm, Value.category, hk0, hk1, lits, litb, litm, litm2, List.getElem?_cons_zero, List.getElem?_cons_succ, or_n0, bit_r, fi0, fi1, fi2, fi3, nI_toInt, nI_add, pk_mul, nI_leI, nI_ltI, nI_eq, pk_sub, ib_nI, nI_clamp, va_up_self, va_up_ne, va_up_up, va_up_comm, pk_us, pk_un, upd_up, updL_up, pk_uLs, pk_uLn, b01_1, b01_0, b01_1s, b01_0s, or_b, hp, a1, a2, b1, b2]
end PRH
