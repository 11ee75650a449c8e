/-! TALKED: the reference, its loops -/
section RTQ
variable {G : ai_G} {d sl : Nat} {Y : mY} {X0 : mX} {P : Nat}
abbrev RL (P : Nat) (sz i j k : Option Value) : ai_L := [some (.ref 199), some (.int (nI P)), sz, i, j, k]
set_option maxHeartbeats 8000000 in
theorem rk_loop {Q : List Value → Nat → Nat → ai_M → Prop} {b : Nat → Int32} {i j : Nat} (hP : 0 < P) (hP6 : P ≤ 6) (hi : i < 3 * (P * P)) (hj : j < 3 * (P * P)) (vi : vlC P i = true) (vj : vlC P j = true) : ∀ (r k : Nat) (S : tS) (X : mX), k + r = 3 * (P * P) → RWS X P (3 * (P * P)) → X 219 = b → RK X0 X P S → S.1 + r ≤ 1900000 → (∀ X', TRH X X' → X' 219 = b → RK X0 X' P (foldC (k3F P b i j) r k S) → aw ET G (d + 2) 256 336 (RL P (some (.int (nI 3))) (some (.int (nI (vct P i)))) (some (.int (nI (vct P j)))) (some (.int (nI (vct P (3 * (P * P))))))) [] 231 sl (mem X' Y) Q) → aw ET G (d + 2) 256 267 (RL P (some (.int (nI 3))) (some (.int (nI (vct P i)))) (some (.int (nI (vct P j)))) (some (.int (nI (vct P k))))) [] 231 sl (mem X Y) Q := by
  have hp := pp_le hP6
  have v90 := vct_90 hP6
  intro r
  induction r with
  | zero =>
    intro k S X hk hr h219 hK hS hQ
    have : k = 3 * (P * P) := by omega
    subst this
    have := hQ X TRH.rfl' h219 hK
    rw [w256_267]
    simp (disch := omega) [w256_269, x256_270, w256_273, rt256, rt256, RL, aw_st, ai_cls, ai_len, ai_p, ai_sw, ai_m, ai_c, ai_at, ai_isI, ai_isJ, ai_isA, ai_ld, ai_1i, ai_2i, ai_2l, ai_cn, ai_j, ai_set, ai_set2, ai_nl, ai_rs, ai_sm, Value.category, hk0, hk1, lits, litb, litm, litm2, List.getElem?_cons_zero, List.getElem?_cons_succ, or_n0, bit_r, fi0, fi1, fi2, fi3, nI_toInt, nI_add, pk_mul, nI_leI, nI_ltI, nI_eq, ib_nI, nI_clamp, va_up_self, va_up_ne, va_up_up, va_up_comm, pk_us, pk_un, upd_up, updL_up, pk_uLs, pk_uLn, b01_1, b01_0, b01_1s, b01_0s, or_b, mm200, mu200, mm201, mu201, mm202, mu202, mm203, mu203, mm204, mu204, mm205, mu205, mm206, mu206, mm207, mu207, mm208, mu208, mm209, mu209, mm210, mu210, mm211, mu211, mm212, mu212, mm213, mu213, mm214, mu214, mm215, mu215, mm216, mu216, mm217, mu217, mm218, mu218, mm219, mu219, mm220, mu220, mm221, mu221, mm222, mu222, mm223, mu223, mm224, mu224, mm225, mu225, mm226, mu226, mm227, mu227, mm228, mu228, mm229, mu229, mm230, mu230, hr.1]
    exact this
  | succ r ih =>
    intro k S X hk hr h219 hK hS hQ
    have hkN : k < 3 * (P * P) := by omega
    by_cases vk : vlC P k = true
    · have l1 := vct_lt hkN vk
      have es : vct P (k + 1) = vct P k + 1 := by show vct P k + (if vlC P k = true then 1 else 0) = _; rw [if_pos vk]
      have t1 := fun (Q : List Value → Nat → Nat → ai_M → Prop) => two_RW (G := G) (d := d + 1) (sl := sl) (Q := Q) (Y := Y) hP hP6 hr hi hkN vi vk
      have t2 := fun (Q : List Value → Nat → Nat → ai_M → Prop) => two_RW (G := G) (d := d + 1) (sl := sl) (Q := Q) (Y := Y) hP hP6 hr hj hkN vj vk
      have e0 : b01 (false = true) = nI 0 := by decide
      have e1 : b01 (true = true) = nI 1 := by decide
      have hno : ¬ vct P (3 * (P * P)) ≤ vct P k := by omega
      cases s1 : sameT P k i
      · cases s2 : sameT P k j
        · rw [s1, e0] at t1
          rw [s2, e0] at t2
          have hc := fun (Q : List Value → Nat → Nat → ai_M → Prop) => cnt_RW (G := G) (d := d + 1) (sl := sl) (Q := Q) (Y := Y) (v := nI 1) hP hP6 hr hkN vk
          have ec : va_up X 219 (balU (X 219) (cdH P k) (cdW P k) (k % 3 + 1) (nI 1)) = va_up X 219 (buC b P k) := by rw [h219]; rfl
          rw [ec] at hc
          have ht := fun (Q : List Value → Nat → Nat → ai_M → Prop) => tells_eq (G := G) (d := d) (sl := sl) (Q := Q) (Y := Y) (X := va_up X 219 (buC b P k)) (P := P) (n := nI 3) (a := nI (vct P i)) (b := nI (vct P j)) (c := nI (vct P k)) hP6
          have tk := tel_RK (X0 := X0) (X := va_up X 219 (buC b P k)) (P := P) (S := S) (n := 3) (a1 := i) (a2 := j) (a3 := k) (RK_cg hK (va_up_ne _ _ (by omega)) (va_up_ne _ _ (by omega))) (by omega) (by omega) (fun _ => ⟨rfl, hi, vi⟩) (fun _ => ⟨rfl, hj, vj⟩) (fun _ => ⟨rfl, hkN, vk⟩)
          have th : TRH X (telX (va_up X 219 (buC b P k)) P (nI 3) (nI (vct P i)) (nI (vct P j)) (nI (vct P k))) := TRH_219.tr tel_h
          have t219 : telX (va_up X 219 (buC b P k)) P (nI 3) (nI (vct P i)) (nI (vct P j)) (nI (vct P k)) 219 = buC b P k := by rw [tel_o (by omega) (by omega), va_up_self]
          rw [va_up_self] at tk
          generalize telX (va_up X 219 (buC b P k)) P (nI 3) (nI (vct P i)) (nI (vct P j)) (nI (vct P k)) = X2 at *
          have hc2 := fun (Q : List Value → Nat → Nat → ai_M → Prop) => cnt_RW (G := G) (d := d + 1) (sl := sl) (Q := Q) (Y := Y) (v := mi1) hP hP6 (RWS_h hr th) hkN vk
          rw [t219, balU_m (of_decide_eq_true vk)] at hc2
          rw [w256_267]
          simp (disch := omega) [w256_269, x256_270, w256_273, w256_276, w256_277, w256_278, w256_281, w256_282, w256_283, x256_285, w256_288, w256_291, w256_292, w256_294, x256_296, w256_299, w256_302, w256_305, w256_306, w256_308, x256_309, w256_312, w256_313, w256_314, w256_315, w256_316, w256_318, x256_320, w256_323, w256_324, w256_326, x256_327, w256_330, w256_333, rt256, rt256, RL, aw_st, ai_cls, ai_len, ai_p, ai_sw, ai_m, ai_c, ai_at, ai_isI, ai_isJ, ai_isA, ai_ld, ai_1i, ai_2i, ai_2l, ai_cn, ai_j, ai_set, ai_set2, ai_nl, ai_rs, ai_sm, Value.category, hk0, hk1, lits, litb, litm, litm2, List.getElem?_cons_zero, List.getElem?_cons_succ, or_n0, bit_r, fi0, fi1, fi2, fi3, nI_toInt, nI_add, pk_mul, nI_leI, nI_ltI, nI_eq, ib_nI, nI_clamp, va_up_self, va_up_ne, va_up_up, va_up_comm, pk_us, pk_un, upd_up, updL_up, pk_uLs, pk_uLn, b01_1, b01_0, b01_1s, b01_0s, or_b, mm200, mu200, mm201, mu201, mm202, mu202, mm203, mu203, mm204, mu204, mm205, mu205, mm206, mu206, mm207, mu207, mm208, mu208, mm209, mu209, mm210, mu210, mm211, mu211, mm212, mu212, mm213, mu213, mm214, mu214, mm215, mu215, mm216, mu216, mm217, mu217, mm218, mu218, mm219, mu219, mm220, mu220, mm221, mu221, mm222, mu222, mm223, mu223, mm224, mu224, mm225, mu225, mm226, mu226, mm227, mu227, mm228, mu228, mm229, mu229, mm230, mu230, hr.1, hno, t1, t2, hc, ht, hc2]
          have hb : (tlS (evR (buC b P k) P 0) 3 i j k S).1 ≤ S.1 + 1 := tlS_le
          rw [← es]
          refine ih (k + 1) (tlS (evR (buC b P k) P 0) 3 i j k S) _ (by omega) (RWS_h hr (th.tr TRH_219)) (va_up_self _ _ _) (RK_cg tk (va_up_ne _ _ (by omega)) (va_up_ne _ _ (by omega))) (by omega) (fun X' f g kk => hQ X' ((th.tr TRH_219).tr f) g ?_)
          show RK X0 X' P (foldC _ r (k + 1) (k3F P b i j k S))
          unfold k3F
          rw [vk, s1, s2]
          exact kk
        · rw [s1, e0] at t1
          rw [s2, e1] at t2
          rw [w256_267]
          simp (disch := omega) [w256_269, x256_270, w256_273, w256_276, w256_277, w256_278, w256_281, w256_282, w256_283, x256_285, w256_288, w256_291, w256_292, w256_294, x256_296, w256_299, w256_302, w256_330, w256_333, rt256, rt256, RL, aw_st, ai_cls, ai_len, ai_p, ai_sw, ai_m, ai_c, ai_at, ai_isI, ai_isJ, ai_isA, ai_ld, ai_1i, ai_2i, ai_2l, ai_cn, ai_j, ai_set, ai_set2, ai_nl, ai_rs, ai_sm, Value.category, hk0, hk1, lits, litb, litm, litm2, List.getElem?_cons_zero, List.getElem?_cons_succ, or_n0, bit_r, fi0, fi1, fi2, fi3, nI_toInt, nI_add, pk_mul, nI_leI, nI_ltI, nI_eq, ib_nI, nI_clamp, va_up_self, va_up_ne, va_up_up, va_up_comm, pk_us, pk_un, upd_up, updL_up, pk_uLs, pk_uLn, b01_1, b01_0, b01_1s, b01_0s, or_b, mm200, mu200, mm201, mu201, mm202, mu202, mm203, mu203, mm204, mu204, mm205, mu205, mm206, mu206, mm207, mu207, mm208, mu208, mm209, mu209, mm210, mu210, mm211, mu211, mm212, mu212, mm213, mu213, mm214, mu214, mm215, mu215, mm216, mu216, mm217, mu217, mm218, mu218, mm219, mu219, mm220, mu220, mm221, mu221, mm222, mu222, mm223, mu223, mm224, mu224, mm225, mu225, mm226, mu226, mm227, mu227, mm228, mu228, mm229, mu229, mm230, mu230, hr.1, hno, t1, t2]
          rw [← es]
          refine ih (k + 1) S X (by omega) hr h219 hK (by omega) (fun X' f g kk => hQ X' f g ?_)
          show RK X0 X' P (foldC _ r (k + 1) (k3F P b i j k S))
          unfold k3F
          rw [vk, s1, s2]
          exact kk
      · rw [s1, e1] at t1
        rw [w256_267]
        simp (disch := omega) [w256_269, x256_270, w256_273, w256_276, w256_277, w256_278, w256_281, w256_282, w256_283, x256_285, w256_288, w256_330, w256_333, rt256, rt256, RL, aw_st, ai_cls, ai_len, ai_p, ai_sw, ai_m, ai_c, ai_at, ai_isI, ai_isJ, ai_isA, ai_ld, ai_1i, ai_2i, ai_2l, ai_cn, ai_j, ai_set, ai_set2, ai_nl, ai_rs, ai_sm, Value.category, hk0, hk1, lits, litb, litm, litm2, List.getElem?_cons_zero, List.getElem?_cons_succ, or_n0, bit_r, fi0, fi1, fi2, fi3, nI_toInt, nI_add, pk_mul, nI_leI, nI_ltI, nI_eq, ib_nI, nI_clamp, va_up_self, va_up_ne, va_up_up, va_up_comm, pk_us, pk_un, upd_up, updL_up, pk_uLs, pk_uLn, b01_1, b01_0, b01_1s, b01_0s, or_b, mm200, mu200, mm201, mu201, mm202, mu202, mm203, mu203, mm204, mu204, mm205, mu205, mm206, mu206, mm207, mu207, mm208, mu208, mm209, mu209, mm210, mu210, mm211, mu211, mm212, mu212, mm213, mu213, mm214, mu214, mm215, mu215, mm216, mu216, mm217, mu217, mm218, mu218, mm219, mu219, mm220, mu220, mm221, mu221, mm222, mu222, mm223, mu223, mm224, mu224, mm225, mu225, mm226, mu226, mm227, mu227, mm228, mu228, mm229, mu229, mm230, mu230, hr.1, hno, t1]
        rw [← es]
        refine ih (k + 1) S X (by omega) hr h219 hK (by omega) (fun X' f g kk => hQ X' f g ?_)
        show RK X0 X' P (foldC _ r (k + 1) (k3F P b i j k S))
        unfold k3F
        rw [vk, s1]
        exact kk
    · have vk' : vlC P k = false := by simpa using vk
      have es : vct P (k + 1) = vct P k := by show vct P k + (if vlC P k = true then 1 else 0) = _; rw [if_neg vk]; rfl
      rw [← es]
      refine ih (k + 1) S X (by omega) hr h219 hK (by omega) (fun X' f g kk => hQ X' f g ?_)
      show RK X0 X' P (foldC _ r (k + 1) (k3F P b i j k S))
      unfold k3F
      rw [vk']
      exact kk
/-- the last loop, where no third one is wanted -/
theorem rk_no {Q : List Value → Nat → Nat → ai_M → Prop} {X : mX} {i j : Option Value} {k T : Nat} (h45 : X 199 45 = nI T) (hT : T ≤ 90) (hk : k ≤ 90) (hQ : aw ET G d 256 336 (RL P (some (.int (nI 2))) i j (some (.int (nI k)))) [] 231 sl (mem X Y) Q) : aw ET G d 256 267 (RL P (some (.int (nI 2))) i j (some (.int (nI k)))) [] 231 sl (mem X Y) Q := by
  rw [w256_267]
  by_cases c : T ≤ k
  · simp (disch := omega) [w256_269, x256_270, w256_273, rt256, rt256, RL, aw_st, ai_cls, ai_len, ai_p, ai_sw, ai_m, ai_c, ai_at, ai_isI, ai_isJ, ai_isA, ai_ld, ai_1i, ai_2i, ai_2l, ai_cn, ai_j, ai_set, ai_set2, ai_nl, ai_rs, ai_sm, Value.category, hk0, hk1, lits, litb, litm, litm2, List.getElem?_cons_zero, List.getElem?_cons_succ, or_n0, bit_r, fi0, fi1, fi2, fi3, nI_toInt, nI_add, pk_mul, nI_leI, nI_ltI, nI_eq, ib_nI, nI_clamp, va_up_self, va_up_ne, va_up_up, va_up_comm, pk_us, pk_un, upd_up, updL_up, pk_uLs, pk_uLn, b01_1, b01_0, b01_1s, b01_0s, or_b, mm200, mu200, mm201, mu201, mm202, mu202, mm203, mu203, mm204, mu204, mm205, mu205, mm206, mu206, mm207, mu207, mm208, mu208, mm209, mu209, mm210, mu210, mm211, mu211, mm212, mu212, mm213, mu213, mm214, mu214, mm215, mu215, mm216, mu216, mm217, mu217, mm218, mu218, mm219, mu219, mm220, mu220, mm221, mu221, mm222, mu222, mm223, mu223, mm224, mu224, mm225, mu225, mm226, mu226, mm227, mu227, mm228, mu228, mm229, mu229, mm230, mu230, h45, c]
    exact hQ
  · simp (disch := omega) [w256_269, x256_270, w256_273, w256_276, w256_277, w256_278, rt256, rt256, RL, aw_st, ai_cls, ai_len, ai_p, ai_sw, ai_m, ai_c, ai_at, ai_isI, ai_isJ, ai_isA, ai_ld, ai_1i, ai_2i, ai_2l, ai_cn, ai_j, ai_set, ai_set2, ai_nl, ai_rs, ai_sm, Value.category, hk0, hk1, lits, litb, litm, litm2, List.getElem?_cons_zero, List.getElem?_cons_succ, or_n0, bit_r, fi0, fi1, fi2, fi3, nI_toInt, nI_add, pk_mul, nI_leI, nI_ltI, nI_eq, ib_nI, nI_clamp, va_up_self, va_up_ne, va_up_up, va_up_comm, pk_us, pk_un, upd_up, updL_up, pk_uLs, pk_uLn, b01_1, b01_0, b01_1s, b01_0s, or_b, mm200, mu200, mm201, mu201, mm202, mu202, mm203, mu203, mm204, mu204, mm205, mu205, mm206, mu206, mm207, mu207, mm208, mu208, mm209, mu209, mm210, mu210, mm211, mu211, mm212, mu212, mm213, mu213, mm214, mu214, mm215, mu215, mm216, mu216, mm217, mu217, mm218, mu218, mm219, mu219, mm220, mu220, mm221, mu221, mm222, mu222, mm223, mu223, mm224, mu224, mm225, mu225, mm226, mu226, mm227, mu227, mm228, mu228, mm229, mu229, mm230, mu230, h45, c]
    exact hQ
end RTQ
