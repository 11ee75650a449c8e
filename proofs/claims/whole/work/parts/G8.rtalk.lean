/-! TALKED: class and reference agree -/
section RTY
variable {G : ai_G} {d sl : Nat} {Y : mY} {P : Nat} {b b' : Nat → Int32}
def BE (P : Nat) (b b' : Nat → Int32) : Prop := ∀ p, p < P → b p = b' p
theorem evR_cg (h : BE P b b') : evR b P 0 = evR b' P 0 := by
  rw [Bool.eq_iff_iff, evR_iff, evR_iff]
  constructor
  · intro e i a c; rw [← h i (by omega)]; exact e i a c
  · intro e i a c; rw [h i (by omega)]; exact e i a c
theorem BE_bu (hP : 0 < P) (h : BE P b b') (c : Nat) : BE P (buC b P c) (buC b' P c) := by
  intro p hp
  have hw := cdW_lt hP (c := c)
  unfold buC balU
  by_cases e1 : p = cdW P c
  · rw [e1, pk_us, pk_us]
    congr 1
    by_cases e2 : cdW P c = cdH P c
    · rw [e2, pk_us, pk_us, h _ (by omega)]
    · rw [pk_un e2, pk_un e2, h _ hw]
  · rw [pk_un e1, pk_un e1]
    by_cases e2 : p = cdH P c
    · rw [e2, pk_us, pk_us, h _ (by omega)]
    · rw [pk_un e2, pk_un e2, h _ hp]
theorem s3T_cg (hP : 0 < P) (h : BE P b b') : s3T P b = s3T P b' := by
  have g1 : ∀ k S, k1F P b k S = k1F P b' k S := fun k S => by unfold k1F; rw [evR_cg (BE_bu hP h k)]
  have g2 : ∀ b b' : Nat → Int32, BE P b b' → ∀ i k S, k2F P b i k S = k2F P b' i k S := fun b b' h i k S => by unfold k2F; rw [evR_cg (BE_bu hP h k)]
  have g3 : ∀ b b' : Nat → Int32, BE P b b' → ∀ i j k S, k3F P b i j k S = k3F P b' i j k S := fun b b' h i j k S => by unfold k3F; rw [evR_cg (BE_bu hP h k)]
  have g4 : ∀ b b' : Nat → Int32, BE P b b' → ∀ i S, i2F P b i S = i2F P b' i S := fun b b' h i S => by unfold i2F; rw [foldC_cg (g2 _ _ (BE_bu hP h i) i)]
  have g5 : ∀ b b' : Nat → Int32, BE P b b' → ∀ i j S, j3F P b i j S = j3F P b' i j S := fun b b' h i j S => by unfold j3F; rw [foldC_cg (g3 _ _ (BE_bu hP h j) i j)]
  have g6 : ∀ b b' : Nat → Int32, BE P b b' → ∀ i S, i3F P b i S = i3F P b' i S := fun b b' h i S => by unfold i3F; rw [foldC_cg (g5 _ _ (BE_bu hP h i) i)]
  unfold s3T s2T s1T s0T
  rw [foldC_cg (g6 _ _ h), foldC_cg (g4 _ _ h), foldC_cg g1, evR_cg h]
/-- refused -/
theorem rtalked_bad {Q : List Value → Nat → Nat → ai_M → Prop} {X : mX} {n : Nat} (hP8 : P ≤ 8) (hn : n ≤ 940) (h0 : X 201 0 = nI P) (h2 : X 199 2 = nI n) (h : ¬ (1 ≤ P ∧ P ≤ 6 ∧ n = P)) : aw ET G (d + 3) 256 0 [some (.ref 199), none, none, none, none, none] [] 231 sl (mem X Y) Q = Q [.int mi1] 231 sl (mem (va_up X 199 (upd (upd (upd (upd (upd (X 199) 0 (nI 0)) 3 (nI n)) 2 (nI 0)) 4 (nI 0)) 5 (nI 940))) Y) := by
  have ein : inI (nI 1) (nI 6) (nI P) = decide (1 ≤ P ∧ P ≤ 6) := by
    unfold inI
    rw [Bool.eq_iff_iff, decide_eq_true_eq, decide_eq_true_eq, nI_leI (by omega) (by omega), nI_leI (by omega) (by omega)]
  by_cases a : 1 ≤ P ∧ P ≤ 6
  · have e : ¬ P = n := by omega
    have e' : ¬ n = P := by omega
    rw [decide_eq_true a] at ein
    simp (disch := omega) [w256_0, w256_1, x256_2, w256_5, w256_6, x256_9, w256_12, x256_13, w256_16, w256_17, w256_18, w256_19, w256_20, w256_21, x256_23, w256_26, w256_29, x256_30, w256_33, w256_34, w256_37, w256_38, rt256, rt256, aw_st, ai_cls, ai_len, ai_p, ai_sw, ai_m, ai_c, ai_at, ai_isI, ai_isJ, ai_isA, ai_ld, ai_1i, ai_2i, ai_2l, ai_cn, ai_j, ai_set, ai_set2, ai_nl, ai_rs, ai_sm, Value.category, hk0, hk1, lits, litb, litm, litm2, List.getElem?_cons_zero, List.getElem?_cons_succ, or_n0, bit_r, fi0, fi1, fi2, fi3, nI_toInt, nI_add, pk_mul, nI_leI, nI_ltI, nI_eq, ib_nI, nI_clamp, va_up_self, va_up_ne, va_up_up, va_up_comm, pk_us, pk_un, upd_up, updL_up, pk_uLs, pk_uLn, b01_1, b01_0, b01_1s, b01_0s, or_b, mm200, mu200, mm201, mu201, mm202, mu202, mm203, mu203, mm204, mu204, mm205, mu205, mm206, mu206, mm207, mu207, mm208, mu208, mm209, mu209, mm210, mu210, mm211, mu211, mm212, mu212, mm213, mu213, mm214, mu214, mm215, mu215, mm216, mu216, mm217, mu217, mm218, mu218, mm219, mu219, mm220, mu220, mm221, mu221, mm222, mu222, mm223, mu223, mm224, mu224, mm225, mu225, mm226, mu226, mm227, mu227, mm228, mu228, mm229, mu229, mm230, mu230, taken_eq, isIn_eq, ein, h0, h2, e, e']
  · rw [decide_eq_false a] at ein
    simp (disch := omega) [w256_0, w256_1, x256_2, w256_5, w256_6, x256_9, w256_12, x256_13, w256_16, w256_17, w256_18, w256_19, w256_20, w256_21, x256_23, w256_26, w256_29, x256_30, w256_33, w256_34, w256_37, w256_38, rt256, rt256, aw_st, ai_cls, ai_len, ai_p, ai_sw, ai_m, ai_c, ai_at, ai_isI, ai_isJ, ai_isA, ai_ld, ai_1i, ai_2i, ai_2l, ai_cn, ai_j, ai_set, ai_set2, ai_nl, ai_rs, ai_sm, Value.category, hk0, hk1, lits, litb, litm, litm2, List.getElem?_cons_zero, List.getElem?_cons_succ, or_n0, bit_r, fi0, fi1, fi2, fi3, nI_toInt, nI_add, pk_mul, nI_leI, nI_ltI, nI_eq, ib_nI, nI_clamp, va_up_self, va_up_ne, va_up_up, va_up_comm, pk_us, pk_un, upd_up, updL_up, pk_uLs, pk_uLn, b01_1, b01_0, b01_1s, b01_0s, or_b, mm200, mu200, mm201, mu201, mm202, mu202, mm203, mu203, mm204, mu204, mm205, mu205, mm206, mu206, mm207, mu207, mm208, mu208, mm209, mu209, mm210, mu210, mm211, mu211, mm212, mu212, mm213, mu213, mm214, mu214, mm215, mu215, mm216, mu216, mm217, mu217, mm218, mu218, mm219, mu219, mm220, mu220, mm221, mu221, mm222, mu222, mm223, mu223, mm224, mu224, mm225, mu225, mm226, mu226, mm227, mu227, mm228, mu228, mm229, mu229, mm230, mu230, taken_eq, isIn_eq, ein, h0, h2]
theorem rtalkV_eq {X : mX} {m : Nat} {cd : Nat → Nat} {x y : Int32} (hm : m ≤ 3) (h44 : X 199 44 = nI m) (h : ∀ q, q < m → X 221 q = nI (cdH P (cd q)) ∧ X 222 q = nI (cdW P (cd q)) ∧ X 223 q = nI (cd q % 3 + 1)) : rtalkV X x y = talkV P m cd x y := by
  unfold rtalkV talkV
  have e2 : inI (nI 0) (nI 2) y = pI 3 y := by
    have := pI_in (P := 3) (by omega) (x := y)
    rw [pk_sub (by omega)] at this
    exact this
  rw [h44, pI_in (by omega), e2]
  split
  · rename_i c
    rw [Bool.and_eq_true] at c
    obtain ⟨a, ha, rfl⟩ := (pI_nat (by omega)).mp c.1
    obtain ⟨q1, q2, q3⟩ := h a ha
    rw [iN_nI (by omega), q1, q2, q3]
  · rfl
/-- the first set, of both -/
def TWR (X : mX) (P m : Nat) (cd : Nat → Nat) : Prop := m ≤ 3 ∧ X 42 3 = nI m ∧ (0 < m → X 42 4 = nI P ∧ 0 < P ∧ P ≤ 6) ∧ (∀ i, i < m → X 45 i = nI (cd i) ∧ cd i < 108) ∧ X 199 44 = nI m ∧ ∀ q, q < m → X 221 q = nI (cdH P (cd q)) ∧ X 222 q = nI (cdW P (cd q)) ∧ X 223 q = nI (cd q % 3 + 1)
end RTY
