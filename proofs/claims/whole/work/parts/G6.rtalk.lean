/-! TALKED: the reference, its loops, III -/
section RTS
variable {G : ai_G} {d sl : Nat} {Y : mY} {X0 : mX} {P : Nat} {b : Nat → Int32}
/-- one first talk of sets of sz: what it comes to -/
def ri1 (P : Nat) (b : Nat → Int32) (i : Nat) (S : tS) : tS := tlS (evR (buC b P i) P 0) 1 i 0 0 S
def ri2 (P : Nat) (b : Nat → Int32) (i : Nat) (S : tS) : tS := foldC (k2F P (buC b P i) i) (3 * (P * P) - (i + 1)) (i + 1) S
def ri3 (P : Nat) (b : Nat → Int32) (i : Nat) (S : tS) : tS := foldC (j3F P (buC b P i) i) (3 * (P * P) - (i + 1)) (i + 1) S
set_option maxHeartbeats 8000000 in
theorem ri_one {Q : List Value → Nat → Nat → ai_M → Prop} {i : Nat} {S : tS} {X : mX} {v4 v5 : Option Value} (hP : 0 < P) (hP6 : P ≤ 6) (hi : i < 3 * (P * P)) (vi : vlC P i = true) (hr : RWS X P (3 * (P * P))) (h219 : X 219 = b) (hK : RK X0 X P S) (hS : S.1 + 1 ≤ 1900000) (hQ : ∀ X' v4' v5', TRH X X' → X' 219 = b → RK X0 X' P (ri1 P b i S) → aw ET G (d + 2) 256 355 (RL P (some (.int (nI 1))) (some (.int (nI (vct P i)))) v4' v5') [] 231 sl (mem X' Y) Q) : aw ET G (d + 2) 256 187 (RL P (some (.int (nI 1))) (some (.int (nI (vct P i)))) v4 v5) [] 231 sl (mem X Y) Q := by
  have hp := pp_le hP6
  have v90 := vct_90 hP6
  have l1 := vct_lt hi vi
  have es : vct P (i + 1) = vct P i + 1 := by show vct P i + (if vlC P i = true then 1 else 0) = _; rw [if_pos vi]
  have hc := fun (Q : List Value → Nat → Nat → ai_M → Prop) => cnt_RW (G := G) (d := d + 1) (sl := sl) (Q := Q) (Y := Y) (v := nI 1) hP hP6 hr hi vi
  have ec : va_up X 219 (balU (X 219) (cdH P i) (cdW P i) (i % 3 + 1) (nI 1)) = va_up X 219 (buC b P i) := by rw [h219]; rfl
  rw [ec] at hc
  have ht := fun (Q : List Value → Nat → Nat → ai_M → Prop) => tells_eq (G := G) (d := d) (sl := sl) (Q := Q) (Y := Y) (X := va_up X 219 (buC b P i)) (P := P) (n := nI 1) (a := nI (vct P i)) (b := nI 0) (c := nI 0) hP6
  have tk := tel_RK (X0 := X0) (X := va_up X 219 (buC b P i)) (P := P) (S := S) (n := 1) (a1 := i) (a2 := 0) (a3 := 0) (i2 := nI 0) (i3 := nI 0) (RK_cg hK (va_up_ne _ _ (by omega)) (va_up_ne _ _ (by omega))) (by omega) (by omega) (fun _ => ⟨rfl, hi, vi⟩) (fun h => by omega) (fun h => by omega)
  have th : TRH X (telX (va_up X 219 (buC b P i)) P (nI 1) (nI (vct P i)) (nI 0) (nI 0)) := TRH_219.tr tel_h
  have t219 : telX (va_up X 219 (buC b P i)) P (nI 1) (nI (vct P i)) (nI 0) (nI 0) 219 = buC b P i := by rw [tel_o (by omega) (by omega), va_up_self]
  rw [va_up_self] at tk
  generalize telX (va_up X 219 (buC b P i)) P (nI 1) (nI (vct P i)) (nI 0) (nI 0) = X2 at *
  have hr2 := RWS_h hr th
  have hc2 := fun (Q : List Value → Nat → Nat → ai_M → Prop) => cnt_RW (G := G) (d := d + 1) (sl := sl) (Q := Q) (Y := Y) (v := mi1) hP hP6 hr2 hi vi
  rw [t219, balU_m (of_decide_eq_true vi)] at hc2
  have fin := fun v4' v5' => hQ _ v4' v5' (th.tr TRH_219) (va_up_self X2 219 b) (RK_cg tk (va_up_ne _ _ (by omega)) (va_up_ne _ _ (by omega)))
  by_cases c : vct P (3 * (P * P)) ≤ vct P i + 1
  · simp (disch := omega) [w256_187, w256_188, w256_189, x256_190, w256_193, w256_194, w256_195, w256_198, w256_199, w256_200, w256_201, w256_202, w256_203, x256_204, w256_207, w256_208, w256_209, w256_210, w256_212, w256_214, x256_215, w256_218, w256_221, w256_222, w256_223, w256_349, w256_350, w256_351, x256_352, rt256, rt256, RL, aw_st, ai_cls, ai_len, ai_p, ai_sw, ai_m, ai_c, ai_at, ai_isI, ai_isJ, ai_isA, ai_ld, ai_1i, ai_2i, ai_2l, ai_cn, ai_j, ai_set, ai_set2, ai_nl, ai_rs, ai_sm, Value.category, hk0, hk1, lits, litb, litm, litm2, List.getElem?_cons_zero, List.getElem?_cons_succ, or_n0, bit_r, fi0, fi1, fi2, fi3, nI_toInt, nI_add, pk_mul, nI_leI, nI_ltI, nI_eq, ib_nI, nI_clamp, va_up_self, va_up_ne, va_up_up, va_up_comm, pk_us, pk_un, upd_up, updL_up, pk_uLs, pk_uLn, b01_1, b01_0, b01_1s, b01_0s, or_b, mm200, mu200, mm201, mu201, mm202, mu202, mm203, mu203, mm204, mu204, mm205, mu205, mm206, mu206, mm207, mu207, mm208, mu208, mm209, mu209, mm210, mu210, mm211, mu211, mm212, mu212, mm213, mu213, mm214, mu214, mm215, mu215, mm216, mu216, mm217, mu217, mm218, mu218, mm219, mu219, mm220, mu220, mm221, mu221, mm222, mu222, mm223, mu223, mm224, mu224, mm225, mu225, mm226, mu226, mm227, mu227, mm228, mu228, mm229, mu229, mm230, mu230, hr2.1, hc, ht, hc2, c]
    exact fin _ _
  · simp (disch := omega) [w256_187, w256_188, w256_189, x256_190, w256_193, w256_194, w256_195, w256_198, w256_199, w256_200, w256_201, w256_202, w256_203, x256_204, w256_207, w256_208, w256_209, w256_210, w256_212, w256_214, x256_215, w256_218, w256_221, w256_222, w256_223, w256_349, w256_350, w256_351, x256_352, rt256, rt256, RL, aw_st, ai_cls, ai_len, ai_p, ai_sw, ai_m, ai_c, ai_at, ai_isI, ai_isJ, ai_isA, ai_ld, ai_1i, ai_2i, ai_2l, ai_cn, ai_j, ai_set, ai_set2, ai_nl, ai_rs, ai_sm, Value.category, hk0, hk1, lits, litb, litm, litm2, List.getElem?_cons_zero, List.getElem?_cons_succ, or_n0, bit_r, fi0, fi1, fi2, fi3, nI_toInt, nI_add, pk_mul, nI_leI, nI_ltI, nI_eq, ib_nI, nI_clamp, va_up_self, va_up_ne, va_up_up, va_up_comm, pk_us, pk_un, upd_up, updL_up, pk_uLs, pk_uLn, b01_1, b01_0, b01_1s, b01_0s, or_b, mm200, mu200, mm201, mu201, mm202, mu202, mm203, mu203, mm204, mu204, mm205, mu205, mm206, mu206, mm207, mu207, mm208, mu208, mm209, mu209, mm210, mu210, mm211, mu211, mm212, mu212, mm213, mu213, mm214, mu214, mm215, mu215, mm216, mu216, mm217, mu217, mm218, mu218, mm219, mu219, mm220, mu220, mm221, mu221, mm222, mu222, mm223, mu223, mm224, mu224, mm225, mu225, mm226, mu226, mm227, mu227, mm228, mu228, mm229, mu229, mm230, mu230, hr2.1, hc, ht, hc2, c]
    exact fin _ _
set_option maxHeartbeats 8000000 in
theorem ri_two {Q : List Value → Nat → Nat → ai_M → Prop} {i : Nat} {S : tS} {X : mX} {v4 v5 : Option Value} (hP : 0 < P) (hP6 : P ≤ 6) (hi : i < 3 * (P * P)) (vi : vlC P i = true) (hr : RWS X P (3 * (P * P))) (h219 : X 219 = b) (hK : RK X0 X P S) (hS : S.1 + 108 ≤ 1900000) (hQ : ∀ X' v4' v5', TRH X X' → X' 219 = b → RK X0 X' P (ri2 P b i S) → aw ET G (d + 2) 256 355 (RL P (some (.int (nI 2))) (some (.int (nI (vct P i)))) v4' v5') [] 231 sl (mem X' Y) Q) : aw ET G (d + 2) 256 187 (RL P (some (.int (nI 2))) (some (.int (nI (vct P i)))) v4 v5) [] 231 sl (mem X Y) Q := by
  have hp := pp_le hP6
  have v90 := vct_90 hP6
  have l1 := vct_lt hi vi
  have es : vct P (i + 1) = vct P i + 1 := by show vct P i + (if vlC P i = true then 1 else 0) = _; rw [if_pos vi]
  have hc := fun (Q : List Value → Nat → Nat → ai_M → Prop) => cnt_RW (G := G) (d := d + 1) (sl := sl) (Q := Q) (Y := Y) (v := nI 1) hP hP6 hr hi vi
  have ec : va_up X 219 (balU (X 219) (cdH P i) (cdW P i) (i % 3 + 1) (nI 1)) = va_up X 219 (buC b P i) := by rw [h219]; rfl
  rw [ec] at hc
  simp (disch := omega) [w256_187, w256_188, w256_189, x256_190, w256_193, w256_194, w256_195, w256_207, w256_208, w256_209, w256_210, rt256, rt256, RL, aw_st, ai_cls, ai_len, ai_p, ai_sw, ai_m, ai_c, ai_at, ai_isI, ai_isJ, ai_isA, ai_ld, ai_1i, ai_2i, ai_2l, ai_cn, ai_j, ai_set, ai_set2, ai_nl, ai_rs, ai_sm, Value.category, hk0, hk1, lits, litb, litm, litm2, List.getElem?_cons_zero, List.getElem?_cons_succ, or_n0, bit_r, fi0, fi1, fi2, fi3, nI_toInt, nI_add, pk_mul, nI_leI, nI_ltI, nI_eq, ib_nI, nI_clamp, va_up_self, va_up_ne, va_up_up, va_up_comm, pk_us, pk_un, upd_up, updL_up, pk_uLs, pk_uLn, b01_1, b01_0, b01_1s, b01_0s, or_b, mm200, mu200, mm201, mu201, mm202, mu202, mm203, mu203, mm204, mu204, mm205, mu205, mm206, mu206, mm207, mu207, mm208, mu208, mm209, mu209, mm210, mu210, mm211, mu211, mm212, mu212, mm213, mu213, mm214, mu214, mm215, mu215, mm216, mu216, mm217, mu217, mm218, mu218, mm219, mu219, mm220, mu220, mm221, mu221, mm222, mu222, mm223, mu223, mm224, mu224, mm225, mu225, mm226, mu226, mm227, mu227, mm228, mu228, mm229, mu229, mm230, mu230, hc]
  rw [← es]
  refine rj_loop (b := buC b P i) (X0 := X0) (B := 1) (Fj := fun j S => tlS (evR (buC (buC b P i) P j) P 0) 2 i j 0 S) hP hP6 hi vi (Or.inl rfl) (fun k S => tlS_le) (fun j S X v5 a1 a2 a3 a4 a5 a6 a7 => rj_two hP hP6 hi vi a1 a2 a3 a4 a5 a6 a7) (3 * (P * P) - (i + 1)) (i + 1) S _ v5 (by omega) (RWS_h hr TRH_219) (va_up_self _ _ _) (RK_cg hK (va_up_ne _ _ (by omega)) (va_up_ne _ _ (by omega))) (by omega) (fun X2 v4' v5' f2 g2 k2 => ?_)
  have hc2 := fun (Q : List Value → Nat → Nat → ai_M → Prop) => cnt_RW (G := G) (d := d + 1) (sl := sl) (Q := Q) (Y := Y) (v := mi1) hP hP6 (RWS_h hr (TRH_219.tr f2)) hi vi
  rw [g2, balU_m (of_decide_eq_true vi)] at hc2
  simp (disch := omega) [w256_349, w256_350, w256_351, x256_352, rt256, rt256, RL, aw_st, ai_cls, ai_len, ai_p, ai_sw, ai_m, ai_c, ai_at, ai_isI, ai_isJ, ai_isA, ai_ld, ai_1i, ai_2i, ai_2l, ai_cn, ai_j, ai_set, ai_set2, ai_nl, ai_rs, ai_sm, Value.category, hk0, hk1, lits, litb, litm, litm2, List.getElem?_cons_zero, List.getElem?_cons_succ, or_n0, bit_r, fi0, fi1, fi2, fi3, nI_toInt, nI_add, pk_mul, nI_leI, nI_ltI, nI_eq, ib_nI, nI_clamp, va_up_self, va_up_ne, va_up_up, va_up_comm, pk_us, pk_un, upd_up, updL_up, pk_uLs, pk_uLn, b01_1, b01_0, b01_1s, b01_0s, or_b, mm200, mu200, mm201, mu201, mm202, mu202, mm203, mu203, mm204, mu204, mm205, mu205, mm206, mu206, mm207, mu207, mm208, mu208, mm209, mu209, mm210, mu210, mm211, mu211, mm212, mu212, mm213, mu213, mm214, mu214, mm215, mu215, mm216, mu216, mm217, mu217, mm218, mu218, mm219, mu219, mm220, mu220, mm221, mu221, mm222, mu222, mm223, mu223, mm224, mu224, mm225, mu225, mm226, mu226, mm227, mu227, mm228, mu228, mm229, mu229, mm230, mu230, hc2]
  exact hQ _ _ _ ((TRH_219.tr f2).tr TRH_219) (va_up_self _ _ _) (RK_cg k2 (va_up_ne _ _ (by omega)) (va_up_ne _ _ (by omega)))
set_option maxHeartbeats 8000000 in
theorem ri_three {Q : List Value → Nat → Nat → ai_M → Prop} {i : Nat} {S : tS} {X : mX} {v4 v5 : Option Value} (hP : 0 < P) (hP6 : P ≤ 6) (hi : i < 3 * (P * P)) (vi : vlC P i = true) (hr : RWS X P (3 * (P * P))) (h219 : X 219 = b) (hK : RK X0 X P S) (hS : S.1 + 11664 ≤ 1900000) (hQ : ∀ X' v4' v5', TRH X X' → X' 219 = b → RK X0 X' P (ri3 P b i S) → aw ET G (d + 2) 256 355 (RL P (some (.int (nI 3))) (some (.int (nI (vct P i)))) v4' v5') [] 231 sl (mem X' Y) Q) : aw ET G (d + 2) 256 187 (RL P (some (.int (nI 3))) (some (.int (nI (vct P i)))) v4 v5) [] 231 sl (mem X Y) Q := by
  have hp := pp_le hP6
  have v90 := vct_90 hP6
  have l1 := vct_lt hi vi
  have es : vct P (i + 1) = vct P i + 1 := by show vct P i + (if vlC P i = true then 1 else 0) = _; rw [if_pos vi]
  have hc := fun (Q : List Value → Nat → Nat → ai_M → Prop) => cnt_RW (G := G) (d := d + 1) (sl := sl) (Q := Q) (Y := Y) (v := nI 1) hP hP6 hr hi vi
  have ec : va_up X 219 (balU (X 219) (cdH P i) (cdW P i) (i % 3 + 1) (nI 1)) = va_up X 219 (buC b P i) := by rw [h219]; rfl
  rw [ec] at hc
  have hb2 : (3 * (P * P) - (i + 1)) * 108 ≤ 108 * 108 := Nat.mul_le_mul_right 108 (by omega)
  simp (disch := omega) [w256_187, w256_188, w256_189, x256_190, w256_193, w256_194, w256_195, w256_207, w256_208, w256_209, w256_210, rt256, rt256, RL, aw_st, ai_cls, ai_len, ai_p, ai_sw, ai_m, ai_c, ai_at, ai_isI, ai_isJ, ai_isA, ai_ld, ai_1i, ai_2i, ai_2l, ai_cn, ai_j, ai_set, ai_set2, ai_nl, ai_rs, ai_sm, Value.category, hk0, hk1, lits, litb, litm, litm2, List.getElem?_cons_zero, List.getElem?_cons_succ, or_n0, bit_r, fi0, fi1, fi2, fi3, nI_toInt, nI_add, pk_mul, nI_leI, nI_ltI, nI_eq, ib_nI, nI_clamp, va_up_self, va_up_ne, va_up_up, va_up_comm, pk_us, pk_un, upd_up, updL_up, pk_uLs, pk_uLn, b01_1, b01_0, b01_1s, b01_0s, or_b, mm200, mu200, mm201, mu201, mm202, mu202, mm203, mu203, mm204, mu204, mm205, mu205, mm206, mu206, mm207, mu207, mm208, mu208, mm209, mu209, mm210, mu210, mm211, mu211, mm212, mu212, mm213, mu213, mm214, mu214, mm215, mu215, mm216, mu216, mm217, mu217, mm218, mu218, mm219, mu219, mm220, mu220, mm221, mu221, mm222, mu222, mm223, mu223, mm224, mu224, mm225, mu225, mm226, mu226, mm227, mu227, mm228, mu228, mm229, mu229, mm230, mu230, hc]
  rw [← es]
  refine rj_loop (b := buC b P i) (X0 := X0) (B := 108) (Fj := fun j S => foldC (k3F P (buC (buC b P i) P j) i j) (3 * (P * P) - (j + 1)) (j + 1) S) hP hP6 hi vi (Or.inr rfl) (fun j S => ?_) (fun j S X v5 a1 a2 a3 a4 a5 a6 a7 => rj_three hP hP6 hi vi a1 a2 a3 a4 a5 a6 a7) (3 * (P * P) - (i + 1)) (i + 1) S _ v5 (by omega) (RWS_h hr TRH_219) (va_up_self _ _ _) (RK_cg hK (va_up_ne _ _ (by omega)) (va_up_ne _ _ (by omega))) (by omega) (fun X2 v4' v5' f2 g2 k2 => ?_)
  · have := foldC_le (F := k3F P (buC (buC b P i) P j) i j) (B := 1) (fun k S => k3F_le) (3 * (P * P) - (j + 1)) (j + 1) S
    (try dsimp only)
    omega
  have hc2 := fun (Q : List Value → Nat → Nat → ai_M → Prop) => cnt_RW (G := G) (d := d + 1) (sl := sl) (Q := Q) (Y := Y) (v := mi1) hP hP6 (RWS_h hr (TRH_219.tr f2)) hi vi
  rw [g2, balU_m (of_decide_eq_true vi)] at hc2
  simp (disch := omega) [w256_349, w256_350, w256_351, x256_352, rt256, rt256, RL, aw_st, ai_cls, ai_len, ai_p, ai_sw, ai_m, ai_c, ai_at, ai_isI, ai_isJ, ai_isA, ai_ld, ai_1i, ai_2i, ai_2l, ai_cn, ai_j, ai_set, ai_set2, ai_nl, ai_rs, ai_sm, Value.category, hk0, hk1, lits, litb, litm, litm2, List.getElem?_cons_zero, List.getElem?_cons_succ, or_n0, bit_r, fi0, fi1, fi2, fi3, nI_toInt, nI_add, pk_mul, nI_leI, nI_ltI, nI_eq, ib_nI, nI_clamp, va_up_self, va_up_ne, va_up_up, va_up_comm, pk_us, pk_un, upd_up, updL_up, pk_uLs, pk_uLn, b01_1, b01_0, b01_1s, b01_0s, or_b, mm200, mu200, mm201, mu201, mm202, mu202, mm203, mu203, mm204, mu204, mm205, mu205, mm206, mu206, mm207, mu207, mm208, mu208, mm209, mu209, mm210, mu210, mm211, mu211, mm212, mu212, mm213, mu213, mm214, mu214, mm215, mu215, mm216, mu216, mm217, mu217, mm218, mu218, mm219, mu219, mm220, mu220, mm221, mu221, mm222, mu222, mm223, mu223, mm224, mu224, mm225, mu225, mm226, mu226, mm227, mu227, mm228, mu228, mm229, mu229, mm230, mu230, hc2]
  exact hQ _ _ _ ((TRH_219.tr f2).tr TRH_219) (va_up_self _ _ _) (RK_cg k2 (va_up_ne _ _ (by omega)) (va_up_ne _ _ (by omega)))
set_option maxHeartbeats 8000000 in
theorem ri_loop {Q : List Value → Nat → Nat → ai_M → Prop} {sz B : Nat} {Fi : Nat → tS → tS} (hP : 0 < P) (hP6 : P ≤ 6) (hsz : sz ≤ 3) (hF : ∀ k S, (Fi k S).1 ≤ S.1 + B)
    (one : ∀ (i : Nat) (S : tS) (X : mX) (v4 v5 : Option Value), i < 3 * (P * P) → vlC P i = true → RWS X P (3 * (P * P)) → X 219 = b → RK X0 X P S → S.1 + B ≤ 1900000 → (∀ X' v4' v5', TRH X X' → X' 219 = b → RK X0 X' P (Fi i S) → aw ET G (d + 2) 256 355 (RL P (some (.int (nI sz))) (some (.int (nI (vct P i)))) v4' v5') [] 231 sl (mem X' Y) Q) → aw ET G (d + 2) 256 187 (RL P (some (.int (nI sz))) (some (.int (nI (vct P i)))) v4 v5) [] 231 sl (mem X Y) Q) :
    ∀ (r i : Nat) (S : tS) (X : mX) (v4 v5 : Option Value), i + r = 3 * (P * P) → RWS X P (3 * (P * P)) → X 219 = b → RK X0 X P S → S.1 + r * B ≤ 1900000 → (∀ X' v3' v4' v5', TRH X X' → X' 219 = b → RK X0 X' P (foldC (fun i S => if vlC P i = true then Fi i S else S) r i S) → aw ET G (d + 2) 256 172 (RL P (some (.int (nI (sz + 1)))) v3' v4' v5') [] 231 sl (mem X' Y) Q) → aw ET G (d + 2) 256 179 (RL P (some (.int (nI sz))) (some (.int (nI (vct P i)))) v4 v5) [] 231 sl (mem X Y) Q := by
  have hp := pp_le hP6
  have v90 := vct_90 hP6
  intro r
  induction r with
  | zero =>
    intro i S X v4 v5 hi hr h219 hK hS hQ
    have : i = 3 * (P * P) := by omega
    subst this
    have := hQ X (some (.int (nI (vct P (3 * (P * P)))))) v4 v5 TRH.rfl' h219 hK
    rw [w256_179]
    simp (disch := omega) [w256_180, x256_181, w256_184, w256_361, w256_364, rt256, rt256, RL, aw_st, ai_cls, ai_len, ai_p, ai_sw, ai_m, ai_c, ai_at, ai_isI, ai_isJ, ai_isA, ai_ld, ai_1i, ai_2i, ai_2l, ai_cn, ai_j, ai_set, ai_set2, ai_nl, ai_rs, ai_sm, Value.category, hk0, hk1, lits, litb, litm, litm2, List.getElem?_cons_zero, List.getElem?_cons_succ, or_n0, bit_r, fi0, fi1, fi2, fi3, nI_toInt, nI_add, pk_mul, nI_leI, nI_ltI, nI_eq, ib_nI, nI_clamp, va_up_self, va_up_ne, va_up_up, va_up_comm, pk_us, pk_un, upd_up, updL_up, pk_uLs, pk_uLn, b01_1, b01_0, b01_1s, b01_0s, or_b, mm200, mu200, mm201, mu201, mm202, mu202, mm203, mu203, mm204, mu204, mm205, mu205, mm206, mu206, mm207, mu207, mm208, mu208, mm209, mu209, mm210, mu210, mm211, mu211, mm212, mu212, mm213, mu213, mm214, mu214, mm215, mu215, mm216, mu216, mm217, mu217, mm218, mu218, mm219, mu219, mm220, mu220, mm221, mu221, mm222, mu222, mm223, mu223, mm224, mu224, mm225, mu225, mm226, mu226, mm227, mu227, mm228, mu228, mm229, mu229, mm230, mu230, hr.1]
    exact this
  | succ r ih =>
    intro i S X v4 v5 hi hr h219 hK hS hQ
    have hS1 : S.1 + r * B + B ≤ 1900000 := by rw [Nat.succ_mul] at hS; omega
    have hiN : i < 3 * (P * P) := by omega
    by_cases vi : vlC P i = true
    · have l1 := vct_lt hiN vi
      have es : vct P (i + 1) = vct P i + 1 := by show vct P i + (if vlC P i = true then 1 else 0) = _; rw [if_pos vi]
      have hno : ¬ vct P (3 * (P * P)) ≤ vct P i := by omega
      rw [w256_179]
      simp (disch := omega) [w256_180, x256_181, w256_184, rt256, rt256, RL, aw_st, ai_cls, ai_len, ai_p, ai_sw, ai_m, ai_c, ai_at, ai_isI, ai_isJ, ai_isA, ai_ld, ai_1i, ai_2i, ai_2l, ai_cn, ai_j, ai_set, ai_set2, ai_nl, ai_rs, ai_sm, Value.category, hk0, hk1, lits, litb, litm, litm2, List.getElem?_cons_zero, List.getElem?_cons_succ, or_n0, bit_r, fi0, fi1, fi2, fi3, nI_toInt, nI_add, pk_mul, nI_leI, nI_ltI, nI_eq, ib_nI, nI_clamp, va_up_self, va_up_ne, va_up_up, va_up_comm, pk_us, pk_un, upd_up, updL_up, pk_uLs, pk_uLn, b01_1, b01_0, b01_1s, b01_0s, or_b, mm200, mu200, mm201, mu201, mm202, mu202, mm203, mu203, mm204, mu204, mm205, mu205, mm206, mu206, mm207, mu207, mm208, mu208, mm209, mu209, mm210, mu210, mm211, mu211, mm212, mu212, mm213, mu213, mm214, mu214, mm215, mu215, mm216, mu216, mm217, mu217, mm218, mu218, mm219, mu219, mm220, mu220, mm221, mu221, mm222, mu222, mm223, mu223, mm224, mu224, mm225, mu225, mm226, mu226, mm227, mu227, mm228, mu228, mm229, mu229, mm230, mu230, hr.1, hno]
      refine one i S X v4 v5 hiN vi hr h219 hK (by omega) (fun X2 w4 w5 f2 g2 k2 => ?_)
      have hb := hF i S
      simp (disch := omega) [w256_355, w256_358, rt256, rt256, RL, aw_st, ai_cls, ai_len, ai_p, ai_sw, ai_m, ai_c, ai_at, ai_isI, ai_isJ, ai_isA, ai_ld, ai_1i, ai_2i, ai_2l, ai_cn, ai_j, ai_set, ai_set2, ai_nl, ai_rs, ai_sm, Value.category, hk0, hk1, lits, litb, litm, litm2, List.getElem?_cons_zero, List.getElem?_cons_succ, or_n0, bit_r, fi0, fi1, fi2, fi3, nI_toInt, nI_add, pk_mul, nI_leI, nI_ltI, nI_eq, ib_nI, nI_clamp, va_up_self, va_up_ne, va_up_up, va_up_comm, pk_us, pk_un, upd_up, updL_up, pk_uLs, pk_uLn, b01_1, b01_0, b01_1s, b01_0s, or_b, mm200, mu200, mm201, mu201, mm202, mu202, mm203, mu203, mm204, mu204, mm205, mu205, mm206, mu206, mm207, mu207, mm208, mu208, mm209, mu209, mm210, mu210, mm211, mu211, mm212, mu212, mm213, mu213, mm214, mu214, mm215, mu215, mm216, mu216, mm217, mu217, mm218, mu218, mm219, mu219, mm220, mu220, mm221, mu221, mm222, mu222, mm223, mu223, mm224, mu224, mm225, mu225, mm226, mu226, mm227, mu227, mm228, mu228, mm229, mu229, mm230, mu230]
      rw [← es]
      refine ih (i + 1) (Fi i S) X2 w4 w5 (by omega) (RWS_h hr f2) g2 k2 (by omega) (fun X' v3' v4' v5' f g kk => hQ X' v3' v4' v5' (f2.tr f) g ?_)
      show RK X0 X' P (foldC _ r (i + 1) (if vlC P i = true then Fi i S else S))
      rw [if_pos vi]
      exact kk
    · have vi' : vlC P i = false := by simpa using vi
      have es : vct P (i + 1) = vct P i := by show vct P i + (if vlC P i = true then 1 else 0) = _; rw [if_neg vi]; rfl
      rw [← es]
      refine ih (i + 1) S X v4 v5 (by omega) hr h219 hK (by omega) (fun X' v3' v4' v5' f g kk => hQ X' v3' v4' v5' f g ?_)
      show RK X0 X' P (foldC _ r (i + 1) (if vlC P i = true then Fi i S else S))
      rw [if_neg vi]
      exact kk
end RTS
