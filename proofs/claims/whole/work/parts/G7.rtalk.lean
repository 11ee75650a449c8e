/-! TALKED: the reference, in all; the two agree -/
section RTU
variable {G : ai_G} {d sl : Nat} {Y : mY} {P : Nat} {b : Nat → Int32} {t : Nat → Nat}
set_option maxHeartbeats 8000000 in
theorem rtc_loop {Q : List Value → Nat → Nat → ai_M → Prop} {m f : Nat} {cd : Nat → Nat} {X0 : mX} {v3 v4 v5 : Option Value} (hP : 0 < P) (hP6 : P ≤ 6) (hm : m ≤ 3) (hf : 0 < f) (hf2 : f < 2000000) (h220 : ∀ q, q < m → X0 220 q = nI (vct P (cd q)) ∧ cd q < 3 * (P * P) ∧ vlC P (cd q) = true) (hr : RWS X0 P (3 * (P * P))) (h44 : X0 199 44 = nI m) (h46 : X0 199 46 = nI f) : ∀ (r i : Nat) (X : mX), i + r = m → (∀ j, ¬ (221 ≤ j ∧ j ≤ 223) → X j = X0 j) → (∀ q, q < i → X 221 q = nI (cdH P (cd q)) ∧ X 222 q = nI (cdW P (cd q)) ∧ X 223 q = nI (cd q % 3 + 1)) → (∀ X', (∀ j, ¬ (221 ≤ j ∧ j ≤ 223) → X' j = X0 j) → (∀ q, q < m → X' 221 q = nI (cdH P (cd q)) ∧ X' 222 q = nI (cdW P (cd q)) ∧ X' 223 q = nI (cd q % 3 + 1)) → aw ET G d 256 441 (RL P (some (.int (nI m))) v3 v4 v5) [] 231 sl (mem X' Y) Q) → aw ET G d 256 369 (RL P (some (.int (nI i))) v3 v4 v5) [] 231 sl (mem X Y) Q := by
  have v90 := vct_90 hP6
  intro r
  induction r with
  | zero =>
    intro i X hi hX hq hQ
    have : i = m := by omega
    subst this
    have := hQ X hX hq
    have e199 := hX 199 (by omega)
    rw [w256_369]
    simp (disch := omega) [w256_370, x256_371, w256_374, w256_377, x256_378, w256_381, rt256, rt256, RL, aw_st, ai_cls, ai_len, ai_p, ai_sw, ai_m, ai_c, ai_at, ai_isI, ai_isJ, ai_isA, ai_ld, ai_1i, ai_2i, ai_2l, ai_cn, ai_j, ai_set, ai_set2, ai_nl, ai_rs, ai_sm, Value.category, hk0, hk1, lits, litb, litm, litm2, List.getElem?_cons_zero, List.getElem?_cons_succ, or_n0, bit_r, fi0, fi1, fi2, fi3, nI_toInt, nI_add, pk_mul, nI_leI, nI_ltI, nI_eq, ib_nI, nI_clamp, va_up_self, va_up_ne, va_up_up, va_up_comm, pk_us, pk_un, upd_up, updL_up, pk_uLs, pk_uLn, b01_1, b01_0, b01_1s, b01_0s, or_b, mm200, mu200, mm201, mu201, mm202, mu202, mm203, mu203, mm204, mu204, mm205, mu205, mm206, mu206, mm207, mu207, mm208, mu208, mm209, mu209, mm210, mu210, mm211, mu211, mm212, mu212, mm213, mu213, mm214, mu214, mm215, mu215, mm216, mu216, mm217, mu217, mm218, mu218, mm219, mu219, mm220, mu220, mm221, mu221, mm222, mu222, mm223, mu223, mm224, mu224, mm225, mu225, mm226, mu226, mm227, mu227, mm228, mu228, mm229, mu229, mm230, mu230, e199, h44]
    exact this
  | succ r ih =>
    intro i X hi hX hq hQ
    have e199 := hX 199 (by omega)
    obtain ⟨a1, a2, a3⟩ := h220 i (by omega)
    have l1 := vct_lt a2 a3
    obtain ⟨b1, b2, b3⟩ := hr.2 (cd i) a2 a3
    rw [w256_369]
    simp (disch := omega) [w256_370, x256_371, w256_374, w256_377, x256_378, w256_381, w256_384, x256_385, w256_388, w256_389, x256_390, w256_393, x256_394, w256_397, w256_398, w256_399, w256_400, w256_401, x256_402, w256_405, w256_406, x256_407, w256_410, x256_411, w256_414, w256_415, w256_416, w256_417, w256_418, x256_419, w256_422, w256_423, x256_424, w256_427, x256_428, w256_431, w256_432, w256_433, w256_434, w256_435, w256_438, rt256, rt256, RL, aw_st, ai_cls, ai_len, ai_p, ai_sw, ai_m, ai_c, ai_at, ai_isI, ai_isJ, ai_isA, ai_ld, ai_1i, ai_2i, ai_2l, ai_cn, ai_j, ai_set, ai_set2, ai_nl, ai_rs, ai_sm, Value.category, hk0, hk1, lits, litb, litm, litm2, List.getElem?_cons_zero, List.getElem?_cons_succ, or_n0, bit_r, fi0, fi1, fi2, fi3, nI_toInt, nI_add, pk_mul, nI_leI, nI_ltI, nI_eq, ib_nI, nI_clamp, va_up_self, va_up_ne, va_up_up, va_up_comm, pk_us, pk_un, upd_up, updL_up, pk_uLs, pk_uLn, b01_1, b01_0, b01_1s, b01_0s, or_b, mm200, mu200, mm201, mu201, mm202, mu202, mm203, mu203, mm204, mu204, mm205, mu205, mm206, mu206, mm207, mu207, mm208, mu208, mm209, mu209, mm210, mu210, mm211, mu211, mm212, mu212, mm213, mu213, mm214, mu214, mm215, mu215, mm216, mu216, mm217, mu217, mm218, mu218, mm219, mu219, mm220, mu220, mm221, mu221, mm222, mu222, mm223, mu223, mm224, mu224, mm225, mu225, mm226, mu226, mm227, mu227, mm228, mu228, mm229, mu229, mm230, mu230, e199, h44, h46, hX 220 (by omega), hX 216 (by omega), hX 217 (by omega), hX 218 (by omega), a1, b1, b2, b3, show ¬ m ≤ i by omega, show ¬ f ≤ 0 by omega, show ¬ f = 0 by omega]
    refine ih (i + 1) _ (by omega) (fun j hj => ?_) (fun q hq2 => ?_) hQ
    · simp only [va_up, show ¬ j = 221 by omega, show ¬ j = 222 by omega, show ¬ j = 223 by omega, if_false]
      exact hX j hj
    · by_cases e : q = i
      · subst e
        refine ⟨?_, ?_, ?_⟩ <;> simp [va_up, upd]
      · obtain ⟨c1, c2, c3⟩ := hq q (by omega)
        refine ⟨?_, ?_, ?_⟩ <;> simp [va_up, upd, e, c1, c2, c3]
/-- what TALKED of the reference leaves of its first set -/
def RKF (X X' : mX) (P : Nat) (S : tS) : Prop := (S.1 = 0 → X' 199 44 = X 199 44 ∧ X' 221 = X 221 ∧ X' 222 = X 222 ∧ X' 223 = X 223) ∧ (¬ S.1 = 0 → S.2.1 ≤ 3 ∧ X' 199 44 = nI S.2.1 ∧ ∀ q, q < S.2.1 → X' 221 q = nI (cdH P (tcd S q)) ∧ X' 222 q = nI (cdW P (tcd S q)) ∧ X' 223 q = nI (tcd S q % 3 + 1))
def TRF (X X' : mX) : Prop := (∀ j, ¬ j = 199 → ¬ (216 ≤ j ∧ j ≤ 223) → X' j = X j) ∧ (∀ j, ¬ j = 0 → ¬ (2 ≤ j ∧ j ≤ 5) → ¬ (44 ≤ j ∧ j ≤ 46) → X' 199 j = X 199 j) ∧ X' 199 0 = nI 0 ∧ X' 199 2 = nI 0
theorem s1T_eq : foldC (fun i S => if vlC P i = true then ri1 P b i S else S) (3 * (P * P)) 0 (s0T P b) = s1T P b := rfl
theorem s2T_eq : foldC (fun i S => if vlC P i = true then ri2 P b i S else S) (3 * (P * P)) 0 (s1T P b) = s2T P b := rfl
theorem s3T_eq : foldC (fun i S => if vlC P i = true then ri3 P b i S else S) (3 * (P * P)) 0 (s2T P b) = s3T P b := rfl
theorem ri2_le (hP6 : P ≤ 6) {i : Nat} {S : tS} : (ri2 P b i S).1 ≤ S.1 + 108 := by
  have hp := pp_le hP6
  have := foldC_le (F := k2F P (buC b P i) i) (B := 1) (fun k S => k2F_le) (3 * (P * P) - (i + 1)) (i + 1) S
  unfold ri2
  omega
theorem ri3_le (hP6 : P ≤ 6) {i : Nat} {S : tS} : (ri3 P b i S).1 ≤ S.1 + 11664 := by
  have hp := pp_le hP6
  have := foldC_le (F := j3F P (buC b P i) i) (B := 108) (fun k S => j3F_le hP6) (3 * (P * P) - (i + 1)) (i + 1) S
  have h2 : (3 * (P * P) - (i + 1)) * 108 ≤ 108 * 108 := Nat.mul_le_mul_right 108 (by omega)
  unfold ri3
  omega
theorem TRH.trg {X X' : mX} (h : TRH X X') : TRG X X' := ⟨fun j a c => h.1 j a (by omega) (by omega), fun j a => h.2 j (by omega) (by omega)⟩
set_option maxHeartbeats 16000000 in
theorem rtalk_66 {Q : List Value → Nat → Nat → ai_M → Prop} {X1 : mX} {v2 : Int32} (hP : 0 < P) (hP6 : P ≤ 6) (h219 : X1 219 = b) (hQ : ∀ X', TRG X1 X' → RKF X1 X' P (s3T P b) → Q [.int (nI (s3T P b).1)] 231 sl (mem X' Y)) : aw ET G (d + 3) 256 66 [some (.ref 199), some (.int (nI P)), some (.int v2), none, none, none] [] 231 sl (mem X1 Y) Q := by
  have hp := pp_le hP6
  have v90 := vct_90 hP6
  have b0 := s0T_le (P := P) (b := b)
  have b1 := s1T_le hP6 (b := b)
  have b2 := s2T_le hP6 (b := b)
  have b3 := s3T_le hP6 (b := b)
  simp (disch := omega) [w256_66, w256_67, x256_68, w256_71, w256_72, rt256, rt256, aw_st, ai_cls, ai_len, ai_p, ai_sw, ai_m, ai_c, ai_at, ai_isI, ai_isJ, ai_isA, ai_ld, ai_1i, ai_2i, ai_2l, ai_cn, ai_j, ai_set, ai_set2, ai_nl, ai_rs, ai_sm, Value.category, hk0, hk1, lits, litb, litm, litm2, List.getElem?_cons_zero, List.getElem?_cons_succ, or_n0, bit_r, fi0, fi1, fi2, fi3, nI_toInt, nI_add, pk_mul, nI_leI, nI_ltI, nI_eq, ib_nI, nI_clamp, va_up_self, va_up_ne, va_up_up, va_up_comm, pk_us, pk_un, upd_up, updL_up, pk_uLs, pk_uLn, b01_1, b01_0, b01_1s, b01_0s, or_b, mm200, mu200, mm201, mu201, mm202, mu202, mm203, mu203, mm204, mu204, mm205, mu205, mm206, mu206, mm207, mu207, mm208, mu208, mm209, mu209, mm210, mu210, mm211, mu211, mm212, mu212, mm213, mu213, mm214, mu214, mm215, mu215, mm216, mu216, mm217, mu217, mm218, mu218, mm219, mu219, mm220, mu220, mm221, mu221, mm222, mu222, mm223, mu223, mm224, mu224, mm225, mu225, mm226, mu226, mm227, mu227, mm228, mu228, mm229, mu229, mm230, mu230]
  refine row_fill (d := d + 2) (X := X1) hP hP6 (3 * (P * P)) 0 _ (by omega) ⟨by rw [va_up_self, pk_us]; rfl, fun c hc => by omega⟩ ⟨fun j a _ => va_up_ne _ _ a, fun j a => by rw [va_up_self, pk_un (by omega)]⟩ (fun j a b => va_up_ne _ _ (by omega)) (va_up_ne _ _ (by omega)) (va_up_ne _ _ (by omega)) (by rw [va_up_self, pk_un (by omega)]) (fun X3 r3 f3 f3v e219 e220 e44 => ?_)
  have ht := fun (Q : List Value → Nat → Nat → ai_M → Prop) => tells_eq (G := G) (d := d + 1) (sl := sl) (Q := Q) (Y := Y) (X := va_up X3 199 (upd (X3 199) 46 (nI 0))) (P := P) (n := nI 0) (a := nI 0) (b := nI 0) (c := nI 0) hP6
  have tk := tel_RK (X0 := X1) (X := va_up X3 199 (upd (X3 199) 46 (nI 0))) (P := P) (S := (0, 0, 0, 0, 0)) (n := 0) (a1 := 0) (a2 := 0) (a3 := 0) (i1 := nI 0) (i2 := nI 0) (i3 := nI 0) ⟨by rw [va_up_self, pk_us], fun _ => by rw [va_up_self, pk_un (by omega)]; exact e44, fun h => absurd rfl h⟩ (by omega) (by decide) (fun h => by omega) (fun h => by omega) (fun h => by omega)
  rw [va_up_ne _ _ (by omega), e219, h219] at tk
  have tk : RK X1 (telX (va_up X3 199 (upd (X3 199) 46 (nI 0))) P (nI 0) (nI 0) (nI 0) (nI 0)) P (s0T P b) := tk
  have th : TRH X3 (telX (va_up X3 199 (upd (X3 199) 46 (nI 0))) P (nI 0) (nI 0) (nI 0) (nI 0)) := TRH.tr ⟨fun j a _ _ => va_up_ne _ _ a, fun j _ a => by rw [va_up_self, pk_un a]⟩ tel_h
  have t219 : telX (va_up X3 199 (upd (X3 199) 46 (nI 0))) P (nI 0) (nI 0) (nI 0) (nI 0) 219 = b := by rw [tel_o (by omega) (by omega), va_up_ne _ _ (by omega), e219, h219]
  simp (disch := omega) [w256_156, w256_157, x256_158, w256_161, w256_162, w256_163, w256_164, w256_165, w256_166, x256_167, w256_170, w256_171, rt256, rt256, aw_st, ai_cls, ai_len, ai_p, ai_sw, ai_m, ai_c, ai_at, ai_isI, ai_isJ, ai_isA, ai_ld, ai_1i, ai_2i, ai_2l, ai_cn, ai_j, ai_set, ai_set2, ai_nl, ai_rs, ai_sm, Value.category, hk0, hk1, lits, litb, litm, litm2, List.getElem?_cons_zero, List.getElem?_cons_succ, or_n0, bit_r, fi0, fi1, fi2, fi3, nI_toInt, nI_add, pk_mul, nI_leI, nI_ltI, nI_eq, ib_nI, nI_clamp, va_up_self, va_up_ne, va_up_up, va_up_comm, pk_us, pk_un, upd_up, updL_up, pk_uLs, pk_uLn, b01_1, b01_0, b01_1s, b01_0s, or_b, mm200, mu200, mm201, mu201, mm202, mu202, mm203, mu203, mm204, mu204, mm205, mu205, mm206, mu206, mm207, mu207, mm208, mu208, mm209, mu209, mm210, mu210, mm211, mu211, mm212, mu212, mm213, mu213, mm214, mu214, mm215, mu215, mm216, mu216, mm217, mu217, mm218, mu218, mm219, mu219, mm220, mu220, mm221, mu221, mm222, mu222, mm223, mu223, mm224, mu224, mm225, mu225, mm226, mu226, mm227, mu227, mm228, mu228, mm229, mu229, mm230, mu230, ht]
  generalize telX (va_up X3 199 (upd (X3 199) 46 (nI 0))) P (nI 0) (nI 0) (nI 0) (nI 0) = X4 at *
  have r4 := RWS_h r3 th
  have g4 : TRG X1 X4 := f3.tr th.trg
  rw [w256_172]
  simp (disch := omega) [w256_173, w256_174, w256_177, w256_178, rt256, rt256, aw_st, ai_cls, ai_len, ai_p, ai_sw, ai_m, ai_c, ai_at, ai_isI, ai_isJ, ai_isA, ai_ld, ai_1i, ai_2i, ai_2l, ai_cn, ai_j, ai_set, ai_set2, ai_nl, ai_rs, ai_sm, Value.category, hk0, hk1, lits, litb, litm, litm2, List.getElem?_cons_zero, List.getElem?_cons_succ, or_n0, bit_r, fi0, fi1, fi2, fi3, nI_toInt, nI_add, pk_mul, nI_leI, nI_ltI, nI_eq, ib_nI, nI_clamp, va_up_self, va_up_ne, va_up_up, va_up_comm, pk_us, pk_un, upd_up, updL_up, pk_uLs, pk_uLn, b01_1, b01_0, b01_1s, b01_0s, or_b, mm200, mu200, mm201, mu201, mm202, mu202, mm203, mu203, mm204, mu204, mm205, mu205, mm206, mu206, mm207, mu207, mm208, mu208, mm209, mu209, mm210, mu210, mm211, mu211, mm212, mu212, mm213, mu213, mm214, mu214, mm215, mu215, mm216, mu216, mm217, mu217, mm218, mu218, mm219, mu219, mm220, mu220, mm221, mu221, mm222, mu222, mm223, mu223, mm224, mu224, mm225, mu225, mm226, mu226, mm227, mu227, mm228, mu228, mm229, mu229, mm230, mu230]
  refine ri_loop (d := d + 1) (b := b) (X0 := X1) (sz := 1) (B := 1) (Fi := ri1 P b) hP hP6 (by omega) (fun k S => tlS_le) (fun i S X v4 v5 a1 a2 a3 a4 a5 a6 a7 => ri_one hP hP6 a1 a2 a3 a4 a5 a6 a7) (3 * (P * P)) 0 (s0T P b) X4 none none (by omega) r4 t219 tk (by omega) (fun X5 v3' v4' v5' f5 e5 k5 => ?_)
  rw [s1T_eq] at k5
  have r5 := RWS_h r4 f5
  have g5 : TRG X1 X5 := g4.tr f5.trg
  rw [w256_172]
  simp (disch := omega) [w256_173, w256_174, w256_177, w256_178, rt256, rt256, RL, aw_st, ai_cls, ai_len, ai_p, ai_sw, ai_m, ai_c, ai_at, ai_isI, ai_isJ, ai_isA, ai_ld, ai_1i, ai_2i, ai_2l, ai_cn, ai_j, ai_set, ai_set2, ai_nl, ai_rs, ai_sm, Value.category, hk0, hk1, lits, litb, litm, litm2, List.getElem?_cons_zero, List.getElem?_cons_succ, or_n0, bit_r, fi0, fi1, fi2, fi3, nI_toInt, nI_add, pk_mul, nI_leI, nI_ltI, nI_eq, ib_nI, nI_clamp, va_up_self, va_up_ne, va_up_up, va_up_comm, pk_us, pk_un, upd_up, updL_up, pk_uLs, pk_uLn, b01_1, b01_0, b01_1s, b01_0s, or_b, mm200, mu200, mm201, mu201, mm202, mu202, mm203, mu203, mm204, mu204, mm205, mu205, mm206, mu206, mm207, mu207, mm208, mu208, mm209, mu209, mm210, mu210, mm211, mu211, mm212, mu212, mm213, mu213, mm214, mu214, mm215, mu215, mm216, mu216, mm217, mu217, mm218, mu218, mm219, mu219, mm220, mu220, mm221, mu221, mm222, mu222, mm223, mu223, mm224, mu224, mm225, mu225, mm226, mu226, mm227, mu227, mm228, mu228, mm229, mu229, mm230, mu230]
  have h2 : 3 * (P * P) * 108 ≤ 108 * 108 := Nat.mul_le_mul_right 108 (by omega)
  refine ri_loop (d := d + 1) (b := b) (X0 := X1) (sz := 2) (B := 108) (Fi := ri2 P b) hP hP6 (by omega) (fun k S => ri2_le hP6) (fun i S X v4 v5 a1 a2 a3 a4 a5 a6 a7 => ri_two hP hP6 a1 a2 a3 a4 a5 a6 a7) (3 * (P * P)) 0 (s1T P b) X5 v4' v5' (by omega) r5 e5 k5 (by omega) (fun X6 w3' w4' w5' f6 e6 k6 => ?_)
  rw [s2T_eq] at k6
  have r6 := RWS_h r5 f6
  have g6 : TRG X1 X6 := g5.tr f6.trg
  rw [w256_172]
  simp (disch := omega) [w256_173, w256_174, w256_177, w256_178, rt256, rt256, RL, aw_st, ai_cls, ai_len, ai_p, ai_sw, ai_m, ai_c, ai_at, ai_isI, ai_isJ, ai_isA, ai_ld, ai_1i, ai_2i, ai_2l, ai_cn, ai_j, ai_set, ai_set2, ai_nl, ai_rs, ai_sm, Value.category, hk0, hk1, lits, litb, litm, litm2, List.getElem?_cons_zero, List.getElem?_cons_succ, or_n0, bit_r, fi0, fi1, fi2, fi3, nI_toInt, nI_add, pk_mul, nI_leI, nI_ltI, nI_eq, ib_nI, nI_clamp, va_up_self, va_up_ne, va_up_up, va_up_comm, pk_us, pk_un, upd_up, updL_up, pk_uLs, pk_uLn, b01_1, b01_0, b01_1s, b01_0s, or_b, mm200, mu200, mm201, mu201, mm202, mu202, mm203, mu203, mm204, mu204, mm205, mu205, mm206, mu206, mm207, mu207, mm208, mu208, mm209, mu209, mm210, mu210, mm211, mu211, mm212, mu212, mm213, mu213, mm214, mu214, mm215, mu215, mm216, mu216, mm217, mu217, mm218, mu218, mm219, mu219, mm220, mu220, mm221, mu221, mm222, mu222, mm223, mu223, mm224, mu224, mm225, mu225, mm226, mu226, mm227, mu227, mm228, mu228, mm229, mu229, mm230, mu230]
  have h3 : 3 * (P * P) * 11664 ≤ 108 * 11664 := Nat.mul_le_mul_right 11664 (by omega)
  refine ri_loop (d := d + 1) (b := b) (X0 := X1) (sz := 3) (B := 11664) (Fi := ri3 P b) hP hP6 (by omega) (fun k S => ri3_le hP6) (fun i S X v4 v5 a1 a2 a3 a4 a5 a6 a7 => ri_three hP hP6 a1 a2 a3 a4 a5 a6 a7) (3 * (P * P)) 0 (s2T P b) X6 w4' w5' (by omega) r6 e6 k6 (by omega) (fun X7 u3 u4 u5 f7 e7 k7 => ?_)
  rw [s3T_eq] at k7
  have r7 := RWS_h r6 f7
  have g7 : TRG X1 X7 := g6.tr f7.trg
  have same : ∀ j, 221 ≤ j → j ≤ 223 → X7 j = X1 j := fun j a c => by
    rw [f7.1 j (by omega) (by omega) (by omega), f6.1 j (by omega) (by omega) (by omega), f5.1 j (by omega) (by omega) (by omega), th.1 j (by omega) (by omega) (by omega)]
    exact f3v j a c
  rw [w256_172]
  obtain ⟨k1, k2, k3⟩ := k7
  by_cases c : (s3T P b).1 = 0
  · have fin := hQ X7 g7 ⟨fun _ => ⟨k2 c, same 221 (by omega) (by omega), same 222 (by omega) (by omega), same 223 (by omega) (by omega)⟩, fun q => absurd c q⟩
    rw [c] at k1 fin
    by_cases q : X7 199 44 ≤ nI 0
    · simp (disch := omega) [w256_173, w256_174, w256_367, w256_368, w256_369, w256_370, x256_371, w256_374, w256_441, x256_442, w256_445, rt256, rt256, RL, aw_st, ai_cls, ai_len, ai_p, ai_sw, ai_m, ai_c, ai_at, ai_isI, ai_isJ, ai_isA, ai_ld, ai_1i, ai_2i, ai_2l, ai_cn, ai_j, ai_set, ai_set2, ai_nl, ai_rs, ai_sm, Value.category, hk0, hk1, lits, litb, litm, litm2, List.getElem?_cons_zero, List.getElem?_cons_succ, or_n0, bit_r, fi0, fi1, fi2, fi3, nI_toInt, nI_add, pk_mul, nI_leI, nI_ltI, nI_eq, ib_nI, nI_clamp, va_up_self, va_up_ne, va_up_up, va_up_comm, pk_us, pk_un, upd_up, updL_up, pk_uLs, pk_uLn, b01_1, b01_0, b01_1s, b01_0s, or_b, mm200, mu200, mm201, mu201, mm202, mu202, mm203, mu203, mm204, mu204, mm205, mu205, mm206, mu206, mm207, mu207, mm208, mu208, mm209, mu209, mm210, mu210, mm211, mu211, mm212, mu212, mm213, mu213, mm214, mu214, mm215, mu215, mm216, mu216, mm217, mu217, mm218, mu218, mm219, mu219, mm220, mu220, mm221, mu221, mm222, mu222, mm223, mu223, mm224, mu224, mm225, mu225, mm226, mu226, mm227, mu227, mm228, mu228, mm229, mu229, mm230, mu230, k1, q]
      exact fin
    · simp (disch := omega) [w256_173, w256_174, w256_367, w256_368, w256_369, w256_370, x256_371, w256_374, w256_377, x256_378, w256_381, w256_441, x256_442, w256_445, rt256, rt256, RL, aw_st, ai_cls, ai_len, ai_p, ai_sw, ai_m, ai_c, ai_at, ai_isI, ai_isJ, ai_isA, ai_ld, ai_1i, ai_2i, ai_2l, ai_cn, ai_j, ai_set, ai_set2, ai_nl, ai_rs, ai_sm, Value.category, hk0, hk1, lits, litb, litm, litm2, List.getElem?_cons_zero, List.getElem?_cons_succ, or_n0, bit_r, fi0, fi1, fi2, fi3, nI_toInt, nI_add, pk_mul, nI_leI, nI_ltI, nI_eq, ib_nI, nI_clamp, va_up_self, va_up_ne, va_up_up, va_up_comm, pk_us, pk_un, upd_up, updL_up, pk_uLs, pk_uLn, b01_1, b01_0, b01_1s, b01_0s, or_b, mm200, mu200, mm201, mu201, mm202, mu202, mm203, mu203, mm204, mu204, mm205, mu205, mm206, mu206, mm207, mu207, mm208, mu208, mm209, mu209, mm210, mu210, mm211, mu211, mm212, mu212, mm213, mu213, mm214, mu214, mm215, mu215, mm216, mu216, mm217, mu217, mm218, mu218, mm219, mu219, mm220, mu220, mm221, mu221, mm222, mu222, mm223, mu223, mm224, mu224, mm225, mu225, mm226, mu226, mm227, mu227, mm228, mu228, mm229, mu229, mm230, mu230, k1, q]
      exact fin
  · obtain ⟨m1, m2, m3⟩ := k3 c
    simp (disch := omega) [w256_173, w256_174, w256_367, w256_368, rt256, rt256, RL, aw_st, ai_cls, ai_len, ai_p, ai_sw, ai_m, ai_c, ai_at, ai_isI, ai_isJ, ai_isA, ai_ld, ai_1i, ai_2i, ai_2l, ai_cn, ai_j, ai_set, ai_set2, ai_nl, ai_rs, ai_sm, Value.category, hk0, hk1, lits, litb, litm, litm2, List.getElem?_cons_zero, List.getElem?_cons_succ, or_n0, bit_r, fi0, fi1, fi2, fi3, nI_toInt, nI_add, pk_mul, nI_leI, nI_ltI, nI_eq, ib_nI, nI_clamp, va_up_self, va_up_ne, va_up_up, va_up_comm, pk_us, pk_un, upd_up, updL_up, pk_uLs, pk_uLn, b01_1, b01_0, b01_1s, b01_0s, or_b, mm200, mu200, mm201, mu201, mm202, mu202, mm203, mu203, mm204, mu204, mm205, mu205, mm206, mu206, mm207, mu207, mm208, mu208, mm209, mu209, mm210, mu210, mm211, mu211, mm212, mu212, mm213, mu213, mm214, mu214, mm215, mu215, mm216, mu216, mm217, mu217, mm218, mu218, mm219, mu219, mm220, mu220, mm221, mu221, mm222, mu222, mm223, mu223, mm224, mu224, mm225, mu225, mm226, mu226, mm227, mu227, mm228, mu228, mm229, mu229, mm230, mu230]
    refine rtc_loop (m := (s3T P b).2.1) (f := (s3T P b).1) (cd := tcd (s3T P b)) (X0 := X7) hP hP6 m1 (by omega) (by omega) m3 r7 m2 k1 (s3T P b).2.1 0 X7 (by omega) (fun _ _ => rfl) (fun q hq => by omega) (fun X8 f8 q8 => ?_)
    simp (disch := omega) [w256_441, x256_442, w256_445, rt256, rt256, RL, aw_st, ai_cls, ai_len, ai_p, ai_sw, ai_m, ai_c, ai_at, ai_isI, ai_isJ, ai_isA, ai_ld, ai_1i, ai_2i, ai_2l, ai_cn, ai_j, ai_set, ai_set2, ai_nl, ai_rs, ai_sm, Value.category, hk0, hk1, lits, litb, litm, litm2, List.getElem?_cons_zero, List.getElem?_cons_succ, or_n0, bit_r, fi0, fi1, fi2, fi3, nI_toInt, nI_add, pk_mul, nI_leI, nI_ltI, nI_eq, ib_nI, nI_clamp, va_up_self, va_up_ne, va_up_up, va_up_comm, pk_us, pk_un, upd_up, updL_up, pk_uLs, pk_uLn, b01_1, b01_0, b01_1s, b01_0s, or_b, mm200, mu200, mm201, mu201, mm202, mu202, mm203, mu203, mm204, mu204, mm205, mu205, mm206, mu206, mm207, mu207, mm208, mu208, mm209, mu209, mm210, mu210, mm211, mu211, mm212, mu212, mm213, mu213, mm214, mu214, mm215, mu215, mm216, mu216, mm217, mu217, mm218, mu218, mm219, mu219, mm220, mu220, mm221, mu221, mm222, mu222, mm223, mu223, mm224, mu224, mm225, mu225, mm226, mu226, mm227, mu227, mm228, mu228, mm229, mu229, mm230, mu230, f8 199 (by omega), k1]
    exact hQ X8 ⟨fun j a c => by rw [f8 j (by omega)]; exact g7.1 j a c, fun j a => by rw [f8 199 (by omega)]; exact g7.2 j a⟩ ⟨fun q => absurd q c, fun _ => ⟨m1, by rw [f8 199 (by omega)]; exact m2, q8⟩⟩
set_option maxHeartbeats 8000000 in
theorem rtalked_ok {Q : List Value → Nat → Nat → ai_M → Prop} {X : mX} (hP : 0 < P) (hP6 : P ≤ 6) (h0 : X 201 0 = nI P) (h2 : X 199 2 = nI P) (hT : TB8 (X 200) t) (hQ : ∀ X' b, (∀ q, q < P → b q = balT t q) → TRF X X' → RKF X X' P (s3T P b) → Q [.int (nI (s3T P b).1)] 231 sl (mem X' Y)) : aw ET G (d + 3) 256 0 [some (.ref 199), none, none, none, none, none] [] 231 sl (mem X Y) Q := by
  have hin : inI (nI 1) (nI 6) (nI P) = true := by
    unfold inI
    rw [decide_eq_true_eq, nI_leI (by omega) (by omega), nI_leI (by omega) (by omega)]
    omega
  simp (disch := omega) [w256_0, w256_1, x256_2, w256_5, w256_6, x256_9, w256_12, x256_13, w256_16, w256_17, w256_18, w256_19, w256_20, w256_21, x256_23, w256_26, w256_29, x256_30, w256_33, w256_34, w256_39, w256_40, rt256, rt256, aw_st, ai_cls, ai_len, ai_p, ai_sw, ai_m, ai_c, ai_at, ai_isI, ai_isJ, ai_isA, ai_ld, ai_1i, ai_2i, ai_2l, ai_cn, ai_j, ai_set, ai_set2, ai_nl, ai_rs, ai_sm, Value.category, hk0, hk1, lits, litb, litm, litm2, List.getElem?_cons_zero, List.getElem?_cons_succ, or_n0, bit_r, fi0, fi1, fi2, fi3, nI_toInt, nI_add, pk_mul, nI_leI, nI_ltI, nI_eq, ib_nI, nI_clamp, va_up_self, va_up_ne, va_up_up, va_up_comm, pk_us, pk_un, upd_up, updL_up, pk_uLs, pk_uLn, b01_1, b01_0, b01_1s, b01_0s, or_b, mm200, mu200, mm201, mu201, mm202, mu202, mm203, mu203, mm204, mu204, mm205, mu205, mm206, mu206, mm207, mu207, mm208, mu208, mm209, mu209, mm210, mu210, mm211, mu211, mm212, mu212, mm213, mu213, mm214, mu214, mm215, mu215, mm216, mu216, mm217, mu217, mm218, mu218, mm219, mu219, mm220, mu220, mm221, mu221, mm222, mu222, mm223, mu223, mm224, mu224, mm225, mu225, mm226, mu226, mm227, mu227, mm228, mu228, mm229, mu229, mm230, mu230, taken_eq, isIn_eq, hin, h0, h2]
  refine bal_fill (d := d + 2) (t := t) hP hP6 P 0 (X 219) _ (by omega) (by rw [va_up_ne _ _ (by omega)]; exact hT) (by rw [va_up_ne _ _ (by omega)]) (fun q hq => by omega) (fun b hb => ?_)
  refine rtalk_66 (b := b) hP hP6 (va_up_self _ _ _) (fun X' f k => hQ X' b hb ⟨fun j a c => ?_, fun j a1 a2 a3 => ?_, ?_, ?_⟩ ?_)
  · rw [f.1 j a c, va_up_ne _ _ (by omega), va_up_ne _ _ a]
  · rw [f.2 j a3, va_up_ne _ _ (by omega), va_up_self]
    simp [upd, show ¬ j = 0 by omega, show ¬ j = 2 by omega, show ¬ j = 3 by omega, show ¬ j = 4 by omega, show ¬ j = 5 by omega]
  · rw [f.2 0 (by omega), va_up_ne _ _ (by omega), va_up_self]
    simp [upd]
  · rw [f.2 2 (by omega), va_up_ne _ _ (by omega), va_up_self]
    simp [upd]
  · obtain ⟨k1, k2⟩ := k
    refine ⟨fun q => ?_, k2⟩
    obtain ⟨a1, a2, a3, a4⟩ := k1 q
    refine ⟨?_, ?_, ?_, ?_⟩
    · rw [a1, va_up_ne _ _ (by omega), va_up_self]
      simp [upd]
    · rw [a2, va_up_ne _ _ (by omega), va_up_ne _ _ (by omega)]
    · rw [a3, va_up_ne _ _ (by omega), va_up_ne _ _ (by omega)]
    · rw [a4, va_up_ne _ _ (by omega), va_up_ne _ _ (by omega)]
end RTU
