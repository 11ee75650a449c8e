/-! TALKED: the reference, its loops, II -/
section RTR
variable {G : ai_G} {d sl : Nat} {Y : mY} {X0 : mX} {P : Nat} {b : Nat → Int32}
set_option maxHeartbeats 8000000 in
theorem rj_two {Q : List Value → Nat → Nat → ai_M → Prop} {i j : Nat} {S : tS} {X : mX} {v5 : Option Value} (hP : 0 < P) (hP6 : P ≤ 6) (hi : i < 3 * (P * P)) (vi : vlC P i = true) (hj : j < 3 * (P * P)) (vj : vlC P j = true) (hr : RWS X P (3 * (P * P))) (h219 : X 219 = b) (hK : RK X0 X P S) (hS : S.1 + 1 ≤ 1900000) (hQ : ∀ X' v5', TRH X X' → X' 219 = b → RK X0 X' P (tlS (evR (buC b P j) P 0) 2 i j 0 S) → aw ET G (d + 2) 256 343 (RL P (some (.int (nI 2))) (some (.int (nI (vct P i)))) (some (.int (nI (vct P j)))) v5') [] 231 sl (mem X' Y) Q) : aw ET G (d + 2) 256 239 (RL P (some (.int (nI 2))) (some (.int (nI (vct P i)))) (some (.int (nI (vct P j)))) v5) [] 231 sl (mem X Y) Q := by
  have hp := pp_le hP6
  have v90 := vct_90 hP6
  have l1 := vct_lt hj vj
  have hc := fun (Q : List Value → Nat → Nat → ai_M → Prop) => cnt_RW (G := G) (d := d + 1) (sl := sl) (Q := Q) (Y := Y) (v := nI 1) hP hP6 hr hj vj
  have ec : va_up X 219 (balU (X 219) (cdH P j) (cdW P j) (j % 3 + 1) (nI 1)) = va_up X 219 (buC b P j) := by rw [h219]; rfl
  rw [ec] at hc
  have ht := fun (Q : List Value → Nat → Nat → ai_M → Prop) => tells_eq (G := G) (d := d) (sl := sl) (Q := Q) (Y := Y) (X := va_up X 219 (buC b P j)) (P := P) (n := nI 2) (a := nI (vct P i)) (b := nI (vct P j)) (c := nI 0) hP6
  have tk := tel_RK (X0 := X0) (X := va_up X 219 (buC b P j)) (P := P) (S := S) (n := 2) (a1 := i) (a2 := j) (a3 := 0) (i3 := nI 0) (RK_cg hK (va_up_ne _ _ (by omega)) (va_up_ne _ _ (by omega))) (by omega) (by omega) (fun _ => ⟨rfl, hi, vi⟩) (fun _ => ⟨rfl, hj, vj⟩) (fun h => by omega)
  have th : TRH X (telX (va_up X 219 (buC b P j)) P (nI 2) (nI (vct P i)) (nI (vct P j)) (nI 0)) := TRH_219.tr tel_h
  have t219 : telX (va_up X 219 (buC b P j)) P (nI 2) (nI (vct P i)) (nI (vct P j)) (nI 0) 219 = buC b P j := by rw [tel_o (by omega) (by omega), va_up_self]
  rw [va_up_self] at tk
  generalize telX (va_up X 219 (buC b P j)) P (nI 2) (nI (vct P i)) (nI (vct P j)) (nI 0) = X2 at *
  have hc2 := fun (Q : List Value → Nat → Nat → ai_M → Prop) => cnt_RW (G := G) (d := d + 1) (sl := sl) (Q := Q) (Y := Y) (v := mi1) hP hP6 (RWS_h hr th) hj vj
  rw [t219, balU_m (of_decide_eq_true vj)] at hc2
  simp (disch := omega) [w256_239, w256_240, w256_242, x256_243, w256_246, w256_247, w256_248, w256_251, w256_252, w256_253, w256_254, w256_255, w256_257, x256_258, w256_261, w256_263, w256_264, w256_265, rt256, rt256, RL, aw_st, ai_cls, ai_len, ai_p, ai_sw, ai_m, ai_c, ai_at, ai_isI, ai_isJ, ai_isA, ai_ld, ai_1i, ai_2i, ai_2l, ai_cn, ai_j, ai_set, ai_set2, ai_nl, ai_rs, ai_sm, Value.category, hk0, hk1, lits, litb, litm, litm2, List.getElem?_cons_zero, List.getElem?_cons_succ, or_n0, bit_r, fi0, fi1, fi2, fi3, nI_toInt, nI_add, pk_mul, nI_leI, nI_ltI, nI_eq, ib_nI, nI_clamp, va_up_self, va_up_ne, va_up_up, va_up_comm, pk_us, pk_un, upd_up, updL_up, pk_uLs, pk_uLn, b01_1, b01_0, b01_1s, b01_0s, or_b, mm200, mu200, mm201, mu201, mm202, mu202, mm203, mu203, mm204, mu204, mm205, mu205, mm206, mu206, mm207, mu207, mm208, mu208, mm209, mu209, mm210, mu210, mm211, mu211, mm212, mu212, mm213, mu213, mm214, mu214, mm215, mu215, mm216, mu216, mm217, mu217, mm218, mu218, mm219, mu219, mm220, mu220, mm221, mu221, mm222, mu222, mm223, mu223, mm224, mu224, mm225, mu225, mm226, mu226, mm227, mu227, mm228, mu228, mm229, mu229, mm230, mu230, hr.1, hc, ht]
  refine rk_no (T := vct P (3 * (P * P))) (k := vct P j + 1) (RWS_h hr th).1 (by omega) (by omega) ?_
  simp (disch := omega) [w256_336, w256_337, w256_339, x256_340, rt256, rt256, RL, aw_st, ai_cls, ai_len, ai_p, ai_sw, ai_m, ai_c, ai_at, ai_isI, ai_isJ, ai_isA, ai_ld, ai_1i, ai_2i, ai_2l, ai_cn, ai_j, ai_set, ai_set2, ai_nl, ai_rs, ai_sm, Value.category, hk0, hk1, lits, litb, litm, litm2, List.getElem?_cons_zero, List.getElem?_cons_succ, or_n0, bit_r, fi0, fi1, fi2, fi3, nI_toInt, nI_add, pk_mul, nI_leI, nI_ltI, nI_eq, ib_nI, nI_clamp, va_up_self, va_up_ne, va_up_up, va_up_comm, pk_us, pk_un, upd_up, updL_up, pk_uLs, pk_uLn, b01_1, b01_0, b01_1s, b01_0s, or_b, mm200, mu200, mm201, mu201, mm202, mu202, mm203, mu203, mm204, mu204, mm205, mu205, mm206, mu206, mm207, mu207, mm208, mu208, mm209, mu209, mm210, mu210, mm211, mu211, mm212, mu212, mm213, mu213, mm214, mu214, mm215, mu215, mm216, mu216, mm217, mu217, mm218, mu218, mm219, mu219, mm220, mu220, mm221, mu221, mm222, mu222, mm223, mu223, mm224, mu224, mm225, mu225, mm226, mu226, mm227, mu227, mm228, mu228, mm229, mu229, mm230, mu230, hc2]
  exact hQ _ _ (th.tr TRH_219) (va_up_self _ _ _) (RK_cg tk (va_up_ne _ _ (by omega)) (va_up_ne _ _ (by omega)))
set_option maxHeartbeats 8000000 in
theorem rj_three {Q : List Value → Nat → Nat → ai_M → Prop} {i j : Nat} {S : tS} {X : mX} {v5 : Option Value} (hP : 0 < P) (hP6 : P ≤ 6) (hi : i < 3 * (P * P)) (vi : vlC P i = true) (hj : j < 3 * (P * P)) (vj : vlC P j = true) (hr : RWS X P (3 * (P * P))) (h219 : X 219 = b) (hK : RK X0 X P S) (hS : S.1 + 108 ≤ 1900000) (hQ : ∀ X' v5', TRH X X' → X' 219 = b → RK X0 X' P (foldC (k3F P (buC b P j) i j) (3 * (P * P) - (j + 1)) (j + 1) S) → aw ET G (d + 2) 256 343 (RL P (some (.int (nI 3))) (some (.int (nI (vct P i)))) (some (.int (nI (vct P j)))) v5') [] 231 sl (mem X' Y) Q) : aw ET G (d + 2) 256 239 (RL P (some (.int (nI 3))) (some (.int (nI (vct P i)))) (some (.int (nI (vct P j)))) v5) [] 231 sl (mem X Y) Q := by
  have hp := pp_le hP6
  have v90 := vct_90 hP6
  have l1 := vct_lt hj vj
  have es : vct P (j + 1) = vct P j + 1 := by show vct P j + (if vlC P j = true then 1 else 0) = _; rw [if_pos vj]
  have hc := fun (Q : List Value → Nat → Nat → ai_M → Prop) => cnt_RW (G := G) (d := d + 1) (sl := sl) (Q := Q) (Y := Y) (v := nI 1) hP hP6 hr hj vj
  have ec : va_up X 219 (balU (X 219) (cdH P j) (cdW P j) (j % 3 + 1) (nI 1)) = va_up X 219 (buC b P j) := by rw [h219]; rfl
  rw [ec] at hc
  simp (disch := omega) [w256_239, w256_240, w256_242, x256_243, w256_246, w256_247, w256_248, w256_261, w256_263, w256_264, w256_265, rt256, rt256, RL, aw_st, ai_cls, ai_len, ai_p, ai_sw, ai_m, ai_c, ai_at, ai_isI, ai_isJ, ai_isA, ai_ld, ai_1i, ai_2i, ai_2l, ai_cn, ai_j, ai_set, ai_set2, ai_nl, ai_rs, ai_sm, Value.category, hk0, hk1, lits, litb, litm, litm2, List.getElem?_cons_zero, List.getElem?_cons_succ, or_n0, bit_r, fi0, fi1, fi2, fi3, nI_toInt, nI_add, pk_mul, nI_leI, nI_ltI, nI_eq, ib_nI, nI_clamp, va_up_self, va_up_ne, va_up_up, va_up_comm, pk_us, pk_un, upd_up, updL_up, pk_uLs, pk_uLn, b01_1, b01_0, b01_1s, b01_0s, or_b, mm200, mu200, mm201, mu201, mm202, mu202, mm203, mu203, mm204, mu204, mm205, mu205, mm206, mu206, mm207, mu207, mm208, mu208, mm209, mu209, mm210, mu210, mm211, mu211, mm212, mu212, mm213, mu213, mm214, mu214, mm215, mu215, mm216, mu216, mm217, mu217, mm218, mu218, mm219, mu219, mm220, mu220, mm221, mu221, mm222, mu222, mm223, mu223, mm224, mu224, mm225, mu225, mm226, mu226, mm227, mu227, mm228, mu228, mm229, mu229, mm230, mu230, hr.1, hc]
  rw [← es]
  refine rk_loop (b := buC b P j) hP hP6 hi hj vi vj (3 * (P * P) - (j + 1)) (j + 1) S _ (by omega) (RWS_h hr TRH_219) (va_up_self _ _ _) (RK_cg hK (va_up_ne _ _ (by omega)) (va_up_ne _ _ (by omega))) (by omega) (fun X2 f2 g2 k2 => ?_)
  have hc2 := fun (Q : List Value → Nat → Nat → ai_M → Prop) => cnt_RW (G := G) (d := d + 1) (sl := sl) (Q := Q) (Y := Y) (v := mi1) hP hP6 (RWS_h hr (TRH_219.tr f2)) hj vj
  rw [g2, balU_m (of_decide_eq_true vj)] at hc2
  simp (disch := omega) [w256_336, w256_337, w256_339, x256_340, rt256, rt256, RL, aw_st, ai_cls, ai_len, ai_p, ai_sw, ai_m, ai_c, ai_at, ai_isI, ai_isJ, ai_isA, ai_ld, ai_1i, ai_2i, ai_2l, ai_cn, ai_j, ai_set, ai_set2, ai_nl, ai_rs, ai_sm, Value.category, hk0, hk1, lits, litb, litm, litm2, List.getElem?_cons_zero, List.getElem?_cons_succ, or_n0, bit_r, fi0, fi1, fi2, fi3, nI_toInt, nI_add, pk_mul, nI_leI, nI_ltI, nI_eq, ib_nI, nI_clamp, va_up_self, va_up_ne, va_up_up, va_up_comm, pk_us, pk_un, upd_up, updL_up, pk_uLs, pk_uLn, b01_1, b01_0, b01_1s, b01_0s, or_b, mm200, mu200, mm201, mu201, mm202, mu202, mm203, mu203, mm204, mu204, mm205, mu205, mm206, mu206, mm207, mu207, mm208, mu208, mm209, mu209, mm210, mu210, mm211, mu211, mm212, mu212, mm213, mu213, mm214, mu214, mm215, mu215, mm216, mu216, mm217, mu217, mm218, mu218, mm219, mu219, mm220, mu220, mm221, mu221, mm222, mu222, mm223, mu223, mm224, mu224, mm225, mu225, mm226, mu226, mm227, mu227, mm228, mu228, mm229, mu229, mm230, mu230, hc2]
  exact hQ _ _ ((TRH_219.tr f2).tr TRH_219) (va_up_self _ _ _) (RK_cg k2 (va_up_ne _ _ (by omega)) (va_up_ne _ _ (by omega)))
set_option maxHeartbeats 8000000 in
theorem rj_loop {Q : List Value → Nat → Nat → ai_M → Prop} {i sz B : Nat} {Fj : Nat → tS → tS} (hP : 0 < P) (hP6 : P ≤ 6) (hi : i < 3 * (P * P)) (vi : vlC P i = true) (hsz : sz = 2 ∨ sz = 3) (hF : ∀ k S, (Fj k S).1 ≤ S.1 + B)
    (one : ∀ (j : Nat) (S : tS) (X : mX) (v5 : Option Value), j < 3 * (P * P) → vlC P j = true → RWS X P (3 * (P * P)) → X 219 = b → RK X0 X P S → S.1 + B ≤ 1900000 → (∀ X' v5', TRH X X' → X' 219 = b → RK X0 X' P (Fj j S) → aw ET G (d + 2) 256 343 (RL P (some (.int (nI sz))) (some (.int (nI (vct P i)))) (some (.int (nI (vct P j)))) v5') [] 231 sl (mem X' Y) Q) → aw ET G (d + 2) 256 239 (RL P (some (.int (nI sz))) (some (.int (nI (vct P i)))) (some (.int (nI (vct P j)))) v5) [] 231 sl (mem X Y) Q) :
    ∀ (r j : Nat) (S : tS) (X : mX) (v5 : Option Value), j + r = 3 * (P * P) → RWS X P (3 * (P * P)) → X 219 = b → RK X0 X P S → S.1 + r * B ≤ 1900000 → (∀ X' v4' v5', TRH X X' → X' 219 = b → RK X0 X' P (foldC (fun j S => if (vlC P j && !sameT P j i) = true then Fj j S else S) r j S) → aw ET G (d + 2) 256 349 (RL P (some (.int (nI sz))) (some (.int (nI (vct P i)))) v4' v5') [] 231 sl (mem X' Y) Q) → aw ET G (d + 2) 256 212 (RL P (some (.int (nI sz))) (some (.int (nI (vct P i)))) (some (.int (nI (vct P j)))) v5) [] 231 sl (mem X Y) Q := by
  have hp := pp_le hP6
  have v90 := vct_90 hP6
  have hs1 : ¬ sz ≤ 1 := by omega
  intro r
  induction r with
  | zero =>
    intro j S X v5 hj hr h219 hK hS hQ
    have : j = 3 * (P * P) := by omega
    subst this
    have := hQ X (some (.int (nI (vct P (3 * (P * P)))))) v5 TRH.rfl' h219 hK
    rw [w256_212]
    simp (disch := omega) [w256_214, x256_215, w256_218, rt256, rt256, RL, aw_st, ai_cls, ai_len, ai_p, ai_sw, ai_m, ai_c, ai_at, ai_isI, ai_isJ, ai_isA, ai_ld, ai_1i, ai_2i, ai_2l, ai_cn, ai_j, ai_set, ai_set2, ai_nl, ai_rs, ai_sm, Value.category, hk0, hk1, lits, litb, litm, litm2, List.getElem?_cons_zero, List.getElem?_cons_succ, or_n0, bit_r, fi0, fi1, fi2, fi3, nI_toInt, nI_add, pk_mul, nI_leI, nI_ltI, nI_eq, ib_nI, nI_clamp, va_up_self, va_up_ne, va_up_up, va_up_comm, pk_us, pk_un, upd_up, updL_up, pk_uLs, pk_uLn, b01_1, b01_0, b01_1s, b01_0s, or_b, mm200, mu200, mm201, mu201, mm202, mu202, mm203, mu203, mm204, mu204, mm205, mu205, mm206, mu206, mm207, mu207, mm208, mu208, mm209, mu209, mm210, mu210, mm211, mu211, mm212, mu212, mm213, mu213, mm214, mu214, mm215, mu215, mm216, mu216, mm217, mu217, mm218, mu218, mm219, mu219, mm220, mu220, mm221, mu221, mm222, mu222, mm223, mu223, mm224, mu224, mm225, mu225, mm226, mu226, mm227, mu227, mm228, mu228, mm229, mu229, mm230, mu230, hr.1]
    exact this
  | succ r ih =>
    intro j S X v5 hj hr h219 hK hS hQ
    have hS1 : S.1 + r * B + B ≤ 1900000 := by rw [Nat.succ_mul] at hS; omega
    have hjN : j < 3 * (P * P) := by omega
    by_cases vj : vlC P j = true
    · have l1 := vct_lt hjN vj
      have es : vct P (j + 1) = vct P j + 1 := by show vct P j + (if vlC P j = true then 1 else 0) = _; rw [if_pos vj]
      have t1 := fun (Q : List Value → Nat → Nat → ai_M → Prop) => two_RW (G := G) (d := d + 1) (sl := sl) (Q := Q) (Y := Y) hP hP6 hr hi hjN vi vj
      have e0 : b01 (false = true) = nI 0 := by decide
      have e1 : b01 (true = true) = nI 1 := by decide
      have hno : ¬ vct P (3 * (P * P)) ≤ vct P j := by omega
      cases s1 : sameT P j i
      · rw [s1, e0] at t1
        rw [w256_212]
        simp (disch := omega) [w256_214, x256_215, w256_218, w256_221, w256_222, w256_223, w256_226, w256_227, w256_228, x256_230, w256_233, rt256, rt256, RL, aw_st, ai_cls, ai_len, ai_p, ai_sw, ai_m, ai_c, ai_at, ai_isI, ai_isJ, ai_isA, ai_ld, ai_1i, ai_2i, ai_2l, ai_cn, ai_j, ai_set, ai_set2, ai_nl, ai_rs, ai_sm, Value.category, hk0, hk1, lits, litb, litm, litm2, List.getElem?_cons_zero, List.getElem?_cons_succ, or_n0, bit_r, fi0, fi1, fi2, fi3, nI_toInt, nI_add, pk_mul, nI_leI, nI_ltI, nI_eq, ib_nI, nI_clamp, va_up_self, va_up_ne, va_up_up, va_up_comm, pk_us, pk_un, upd_up, updL_up, pk_uLs, pk_uLn, b01_1, b01_0, b01_1s, b01_0s, or_b, mm200, mu200, mm201, mu201, mm202, mu202, mm203, mu203, mm204, mu204, mm205, mu205, mm206, mu206, mm207, mu207, mm208, mu208, mm209, mu209, mm210, mu210, mm211, mu211, mm212, mu212, mm213, mu213, mm214, mu214, mm215, mu215, mm216, mu216, mm217, mu217, mm218, mu218, mm219, mu219, mm220, mu220, mm221, mu221, mm222, mu222, mm223, mu223, mm224, mu224, mm225, mu225, mm226, mu226, mm227, mu227, mm228, mu228, mm229, mu229, mm230, mu230, hr.1, hno, hs1, t1]
        refine one j S X v5 hjN vj hr h219 hK (by omega) (fun X2 w5 f2 g2 k2 => ?_)
        have hb := hF j S
        simp (disch := omega) [w256_343, w256_346, rt256, rt256, RL, aw_st, ai_cls, ai_len, ai_p, ai_sw, ai_m, ai_c, ai_at, ai_isI, ai_isJ, ai_isA, ai_ld, ai_1i, ai_2i, ai_2l, ai_cn, ai_j, ai_set, ai_set2, ai_nl, ai_rs, ai_sm, Value.category, hk0, hk1, lits, litb, litm, litm2, List.getElem?_cons_zero, List.getElem?_cons_succ, or_n0, bit_r, fi0, fi1, fi2, fi3, nI_toInt, nI_add, pk_mul, nI_leI, nI_ltI, nI_eq, ib_nI, nI_clamp, va_up_self, va_up_ne, va_up_up, va_up_comm, pk_us, pk_un, upd_up, updL_up, pk_uLs, pk_uLn, b01_1, b01_0, b01_1s, b01_0s, or_b, mm200, mu200, mm201, mu201, mm202, mu202, mm203, mu203, mm204, mu204, mm205, mu205, mm206, mu206, mm207, mu207, mm208, mu208, mm209, mu209, mm210, mu210, mm211, mu211, mm212, mu212, mm213, mu213, mm214, mu214, mm215, mu215, mm216, mu216, mm217, mu217, mm218, mu218, mm219, mu219, mm220, mu220, mm221, mu221, mm222, mu222, mm223, mu223, mm224, mu224, mm225, mu225, mm226, mu226, mm227, mu227, mm228, mu228, mm229, mu229, mm230, mu230]
        rw [← es]
        refine ih (j + 1) (Fj j S) X2 w5 (by omega) (RWS_h hr f2) g2 k2 (by omega) (fun X' v4' v5' f g kk => hQ X' v4' v5' (f2.tr f) g ?_)
        show RK X0 X' P (foldC _ r (j + 1) (if (vlC P j && !sameT P j i) = true then Fj j S else S))
        rw [vj, s1, if_pos (by decide)]
        exact kk
      · rw [s1, e1] at t1
        rw [w256_212]
        simp (disch := omega) [w256_214, x256_215, w256_218, w256_221, w256_222, w256_223, w256_226, w256_227, w256_228, x256_230, w256_233, w256_236, w256_343, w256_346, rt256, rt256, RL, aw_st, ai_cls, ai_len, ai_p, ai_sw, ai_m, ai_c, ai_at, ai_isI, ai_isJ, ai_isA, ai_ld, ai_1i, ai_2i, ai_2l, ai_cn, ai_j, ai_set, ai_set2, ai_nl, ai_rs, ai_sm, Value.category, hk0, hk1, lits, litb, litm, litm2, List.getElem?_cons_zero, List.getElem?_cons_succ, or_n0, bit_r, fi0, fi1, fi2, fi3, nI_toInt, nI_add, pk_mul, nI_leI, nI_ltI, nI_eq, ib_nI, nI_clamp, va_up_self, va_up_ne, va_up_up, va_up_comm, pk_us, pk_un, upd_up, updL_up, pk_uLs, pk_uLn, b01_1, b01_0, b01_1s, b01_0s, or_b, mm200, mu200, mm201, mu201, mm202, mu202, mm203, mu203, mm204, mu204, mm205, mu205, mm206, mu206, mm207, mu207, mm208, mu208, mm209, mu209, mm210, mu210, mm211, mu211, mm212, mu212, mm213, mu213, mm214, mu214, mm215, mu215, mm216, mu216, mm217, mu217, mm218, mu218, mm219, mu219, mm220, mu220, mm221, mu221, mm222, mu222, mm223, mu223, mm224, mu224, mm225, mu225, mm226, mu226, mm227, mu227, mm228, mu228, mm229, mu229, mm230, mu230, hr.1, hno, hs1, t1]
        rw [← es]
        refine ih (j + 1) S X v5 (by omega) hr h219 hK (by omega) (fun X' v4' v5' f g kk => hQ X' v4' v5' f g ?_)
        show RK X0 X' P (foldC _ r (j + 1) (if (vlC P j && !sameT P j i) = true then Fj j S else S))
        rw [vj, s1, if_neg (by decide)]
        exact kk
    · have vj' : vlC P j = false := by simpa using vj
      have es : vct P (j + 1) = vct P j := by show vct P j + (if vlC P j = true then 1 else 0) = _; rw [if_neg vj]; rfl
      rw [← es]
      refine ih (j + 1) S X v5 (by omega) hr h219 hK (by omega) (fun X' v4' v5' f g kk => hQ X' v4' v5' f g ?_)
      show RK X0 X' P (foldC _ r (j + 1) (if (vlC P j && !sameT P j i) = true then Fj j S else S))
      rw [vj', if_neg (by simp)]
      exact kk
end RTR
