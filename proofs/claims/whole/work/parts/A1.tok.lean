/-! TOKENS: the class's Reader, I (the first seven rows: kit/laws/BITS, for pasting) -/
section TKC
variable {G : ai_G} {d sl : Nat} {Q : List Value → Nat → Nat → ai_M → Prop} {Y : mY} {X : mX} {t : Nat → Nat} {n lim i p : Nat}
theorem wb_tb (n : Nat) : (lN n).toBitVec = BitVec.ofNat 64 n := rfl
theorem wb_inj {a b : Int64} (h : a.toBitVec = b.toBitVec) : a = b := Int64.toBitVec_inj.mp h
theorem wb_c : ∀ k, k < 64 → ((nI k).toInt64 &&& 63) = lN k := by decide +kernel
theorem wb_sm : ∀ k, k < 64 → (BitVec.ofNat 64 k).smod 64 = BitVec.ofNat 64 k := by decide +kernel
theorem wb_shl (n : Nat) {k : Nat} (hk : k < 64) : lN n <<< ((nI k).toInt64 &&& 63) = lN (n * 2 ^ k) := by
  rw [wb_c k hk]
  apply wb_inj
  rw [Int64.toBitVec_shiftLeft, wb_tb, wb_tb, wb_tb, wb_sm k hk]
  apply BitVec.eq_of_toNat_eq
  rw [BitVec.shiftLeft_eq', BitVec.toNat_shiftLeft, BitVec.toNat_ofNat, BitVec.toNat_ofNat, BitVec.toNat_ofNat, Nat.mod_eq_of_lt (show k < 2 ^ 64 by omega), Nat.shiftLeft_eq, Nat.mul_mod, Nat.mod_mod, ← Nat.mul_mod]
theorem u_tn {n : Nat} (h : n < 2 ^ 64) : (UInt64.ofNat n).toNat = n := Nat.mod_eq_of_lt h
theorem g_or {k p a b : Nat} (hp : 2 ^ k = p) (ha : a < p) (h : b * p + a < 2 ^ 64) : lN (b * p) ||| lN a = lN (b * p + a) := by
  subst hp
  have h1 : b * 2 ^ k ||| a = b * 2 ^ k + a := by rw [← Nat.shiftLeft_eq, Nat.shiftLeft_add_eq_or_of_lt ha]
  have h3 : UInt64.ofNat (b * 2 ^ k) ||| UInt64.ofNat a = UInt64.ofNat (b * 2 ^ k + a) := UInt64.toNat_inj.mp (by rw [UInt64.toNat_or, u_tn (by omega), u_tn (by omega), u_tn h, h1])
  have h2 := congrArg UInt64.toInt64 h3
  exact h2
/-- a byte -/
def bI (v : Nat) : Int32 := (nI v).toInt8.toInt32
theorem bI_and {v : Nat} (h : v < 256) : bI v &&& nI 255 = nI v := by
  have h2 : (List.range 256).all (fun v => bI v &&& nI 255 == nI v) = true := by decide +kernel
  exact eq_of_beq (List.all_eq_true.mp h2 v (List.mem_range.mpr h))
theorem bI_eq {v c : Nat} (h : v < 256) (hc : c < 128) : (bI v = nI c) = (v = c) := by
  have h2 : (List.range 256).all (fun v => (List.range 128).all (fun c => decide (bI v = nI c) == decide (v = c))) = true := by decide +kernel
  have := eq_of_beq (List.all_eq_true.mp (List.all_eq_true.mp h2 v (List.mem_range.mpr h)) c (List.mem_range.mpr hc))
  exact propext (decide_eq_decide.mp this)
/-- the tape's bytes -/
def TB8 (x : Nat → Int32) (t : Nat → Nat) : Prop := ∀ j, j < 940 → t j < 256 ∧ x j = bI (t j)
set_option maxHeartbeats 4000000 in
theorem blanks_loop (h0 : X 2 0 = nI 1) (h1 : X 2 1 = nI n) (hT : TB8 (X 1) t) (hn : n ≤ 940) {v : Int32} : ∀ (r i : Nat), i + r = n → aw ET G d 19 2 [some (.ref 2), some (.int v), some (.int (nI i))] [] 231 sl (mem X Y) Q = Q [.int (nI (skR t r i))] 231 sl (mem X Y) := by
  intro r
  induction r with
  | zero =>
    intro i hi
    have : i = n := by omega
    subst this
    simp (disch := omega) [w19_0, w19_1, w19_2, w19_3, x19_4_2, w19_7, w19_10, x19_11_2, w19_14, w19_15, w19_16, w19_18, w19_21, x19_22_2, w19_25, w19_26, w19_27, w19_29, w19_32, w19_33, w19_34, w19_37, w19_40, x19_41_2, w19_44, rt19, aw_st, ai_cls, ai_len, ai_p, ai_sw, ai_m, ai_c, ai_at, ai_isI, ai_isJ, ai_isA, ai_ld, ai_1i, ai_2i, ai_2l, ai_cn, ai_j, ai_set, ai_set2, ai_nl, ai_rs, ai_sm, Value.category, hk0, hk1, lits, litb, litm, litm2, List.getElem?_cons_zero, List.getElem?_cons_succ, or_n0, bit_r, fi0, fi1, fi2, fi3, nI_toInt, nI_add, pk_mul, nI_leI, nI_ltI, nI_eq, pk_sub, ib_nI, nI_clamp, va_up_self, va_up_ne, va_up_up, va_up_comm, pk_us, pk_un, upd_up, updL_up, pk_uLs, pk_uLn, b01_1, b01_0, b01_1s, b01_0s, or_b, h1, skR]
  | succ r ih =>
    intro i hi
    obtain ⟨ht, hx⟩ := hT i (by omega)
    have := ih (i + 1) (by omega)
    unfold skR isBl
    rw [w19_2]
    by_cases e1 : t i = 32
    · simp (disch := omega) [w19_0, w19_1, w19_3, x19_4_2, w19_7, w19_10, x19_11_2, w19_14, w19_15, w19_16, w19_18, w19_21, x19_22_2, w19_25, w19_26, w19_27, w19_29, w19_32, w19_33, w19_34, w19_37, w19_40, x19_41_2, w19_44, rt19, aw_st, ai_cls, ai_len, ai_p, ai_sw, ai_m, ai_c, ai_at, ai_isI, ai_isJ, ai_isA, ai_ld, ai_1i, ai_2i, ai_2l, ai_cn, ai_j, ai_set, ai_set2, ai_nl, ai_rs, ai_sm, Value.category, hk0, hk1, lits, litb, litm, litm2, List.getElem?_cons_zero, List.getElem?_cons_succ, or_n0, bit_r, fi0, fi1, fi2, fi3, nI_toInt, nI_add, pk_mul, nI_leI, nI_ltI, nI_eq, pk_sub, ib_nI, nI_clamp, va_up_self, va_up_ne, va_up_up, va_up_comm, pk_us, pk_un, upd_up, updL_up, pk_uLs, pk_uLn, b01_1, b01_0, b01_1s, b01_0s, or_b, h0, h1, mm1, hx, bI_eq, e1, show ¬ n ≤ i by omega, this]
    · by_cases e2 : t i = 10
      · simp (disch := omega) [w19_0, w19_1, w19_3, x19_4_2, w19_7, w19_10, x19_11_2, w19_14, w19_15, w19_16, w19_18, w19_21, x19_22_2, w19_25, w19_26, w19_27, w19_29, w19_32, w19_33, w19_34, w19_37, w19_40, x19_41_2, w19_44, rt19, aw_st, ai_cls, ai_len, ai_p, ai_sw, ai_m, ai_c, ai_at, ai_isI, ai_isJ, ai_isA, ai_ld, ai_1i, ai_2i, ai_2l, ai_cn, ai_j, ai_set, ai_set2, ai_nl, ai_rs, ai_sm, Value.category, hk0, hk1, lits, litb, litm, litm2, List.getElem?_cons_zero, List.getElem?_cons_succ, or_n0, bit_r, fi0, fi1, fi2, fi3, nI_toInt, nI_add, pk_mul, nI_leI, nI_ltI, nI_eq, pk_sub, ib_nI, nI_clamp, va_up_self, va_up_ne, va_up_up, va_up_comm, pk_us, pk_un, upd_up, updL_up, pk_uLs, pk_uLn, b01_1, b01_0, b01_1s, b01_0s, or_b, h0, h1, mm1, hx, bI_eq, e1, e2, show ¬ n ≤ i by omega, this]
      · simp (disch := omega) [w19_0, w19_1, w19_3, x19_4_2, w19_7, w19_10, x19_11_2, w19_14, w19_15, w19_16, w19_18, w19_21, x19_22_2, w19_25, w19_26, w19_27, w19_29, w19_32, w19_33, w19_34, w19_37, w19_40, x19_41_2, w19_44, rt19, aw_st, ai_cls, ai_len, ai_p, ai_sw, ai_m, ai_c, ai_at, ai_isI, ai_isJ, ai_isA, ai_ld, ai_1i, ai_2i, ai_2l, ai_cn, ai_j, ai_set, ai_set2, ai_nl, ai_rs, ai_sm, Value.category, hk0, hk1, lits, litb, litm, litm2, List.getElem?_cons_zero, List.getElem?_cons_succ, or_n0, bit_r, fi0, fi1, fi2, fi3, nI_toInt, nI_add, pk_mul, nI_leI, nI_ltI, nI_eq, pk_sub, ib_nI, nI_clamp, va_up_self, va_up_ne, va_up_up, va_up_comm, pk_us, pk_un, upd_up, updL_up, pk_uLs, pk_uLn, b01_1, b01_0, b01_1s, b01_0s, or_b, h0, h1, mm1, hx, bI_eq, e1, e2, show ¬ n ≤ i by omega]
theorem blanks_eq (h0 : X 2 0 = nI 1) (h1 : X 2 1 = nI n) (hT : TB8 (X 1) t) (hn : n ≤ 940) (hi : i ≤ n) : aw ET G d 19 0 [some (.ref 2), some (.int (nI i)), none] [] 231 sl (mem X Y) Q = Q [.int (nI (skp t n i))] 231 sl (mem X Y) := by
  have := blanks_loop (G := G) (d := d) (sl := sl) (Q := Q) (Y := Y) h0 h1 hT hn (v := nI i) (n - i) i (by omega)
  simp (disch := omega) [w19_0, w19_1, aw_st, ai_cls, ai_len, ai_p, ai_sw, ai_m, ai_c, ai_at, ai_isI, ai_isJ, ai_isA, ai_ld, ai_1i, ai_2i, ai_2l, ai_cn, ai_j, ai_set, ai_set2, ai_nl, ai_rs, ai_sm, Value.category, hk0, hk1, lits, litb, litm, litm2, List.getElem?_cons_zero, List.getElem?_cons_succ, or_n0, bit_r, fi0, fi1, fi2, fi3, nI_toInt, nI_add, pk_mul, nI_leI, nI_ltI, nI_eq, pk_sub, ib_nI, nI_clamp, va_up_self, va_up_ne, va_up_up, va_up_comm, pk_us, pk_un, upd_up, updL_up, pk_uLs, pk_uLn, b01_1, b01_0, b01_1s, b01_0s, or_b]
  exact Iff.of_eq this
theorem letter_eq {k : Nat} {M : ai_M} {c : Nat} (hc : c < 256) : aw ET G d 21 0 [some (.int (nI c))] [] k sl M Q = Q [.int (b01 (isAl c = true))] k sl M := by
  unfold isAl b01
  by_cases e1 : c < 97
  · simp (disch := omega) [w21_0, w21_1, w21_3, w21_6, w21_7, w21_9, w21_12, w21_13, w21_16, w21_17, ow21, rt21, in21, aw_st, ai_cls, ai_len, ai_p, ai_sw, ai_m, ai_c, ai_at, ai_isI, ai_isJ, ai_isA, ai_ld, ai_1i, ai_2i, ai_2l, ai_cn, ai_j, ai_set, ai_set2, ai_nl, ai_rs, ai_sm, Value.category, hk0, hk1, lits, litb, litm, litm2, List.getElem?_cons_zero, List.getElem?_cons_succ, or_n0, bit_r, fi0, fi1, fi2, fi3, nI_toInt, nI_add, pk_mul, nI_leI, nI_ltI, nI_eq, pk_sub, ib_nI, nI_clamp, va_up_self, va_up_ne, va_up_up, va_up_comm, pk_us, pk_un, upd_up, updL_up, pk_uLs, pk_uLn, b01_1, b01_0, b01_1s, b01_0s, or_b, e1, show ¬ 97 ≤ c by omega]
  · by_cases e2 : 122 < c
    · simp (disch := omega) [w21_0, w21_1, w21_3, w21_6, w21_7, w21_9, w21_12, w21_13, w21_16, w21_17, ow21, rt21, in21, aw_st, ai_cls, ai_len, ai_p, ai_sw, ai_m, ai_c, ai_at, ai_isI, ai_isJ, ai_isA, ai_ld, ai_1i, ai_2i, ai_2l, ai_cn, ai_j, ai_set, ai_set2, ai_nl, ai_rs, ai_sm, Value.category, hk0, hk1, lits, litb, litm, litm2, List.getElem?_cons_zero, List.getElem?_cons_succ, or_n0, bit_r, fi0, fi1, fi2, fi3, nI_toInt, nI_add, pk_mul, nI_leI, nI_ltI, nI_eq, pk_sub, ib_nI, nI_clamp, va_up_self, va_up_ne, va_up_up, va_up_comm, pk_us, pk_un, upd_up, updL_up, pk_uLs, pk_uLn, b01_1, b01_0, b01_1s, b01_0s, or_b, e1, e2, show ¬ c ≤ 122 by omega]
    · simp (disch := omega) [w21_0, w21_1, w21_3, w21_6, w21_7, w21_9, w21_12, w21_13, w21_16, w21_17, ow21, rt21, in21, aw_st, ai_cls, ai_len, ai_p, ai_sw, ai_m, ai_c, ai_at, ai_isI, ai_isJ, ai_isA, ai_ld, ai_1i, ai_2i, ai_2l, ai_cn, ai_j, ai_set, ai_set2, ai_nl, ai_rs, ai_sm, Value.category, hk0, hk1, lits, litb, litm, litm2, List.getElem?_cons_zero, List.getElem?_cons_succ, or_n0, bit_r, fi0, fi1, fi2, fi3, nI_toInt, nI_add, pk_mul, nI_leI, nI_ltI, nI_eq, pk_sub, ib_nI, nI_clamp, va_up_self, va_up_ne, va_up_up, va_up_comm, pk_us, pk_un, upd_up, updL_up, pk_uLs, pk_uLn, b01_1, b01_0, b01_1s, b01_0s, or_b, e1, e2, show 97 ≤ c by omega, show c ≤ 122 by omega]
theorem digit_eq {k : Nat} {M : ai_M} {c : Nat} (hc : c < 256) : aw ET G d 22 0 [some (.int (nI c))] [] k sl M Q = Q [.int (b01 (isDg c = true))] k sl M := by
  unfold isDg b01
  by_cases e1 : c < 48
  · simp (disch := omega) [w22_0, w22_1, w22_3, w22_6, w22_7, w22_9, w22_12, w22_13, w22_16, w22_17, ow22, rt22, in22, aw_st, ai_cls, ai_len, ai_p, ai_sw, ai_m, ai_c, ai_at, ai_isI, ai_isJ, ai_isA, ai_ld, ai_1i, ai_2i, ai_2l, ai_cn, ai_j, ai_set, ai_set2, ai_nl, ai_rs, ai_sm, Value.category, hk0, hk1, lits, litb, litm, litm2, List.getElem?_cons_zero, List.getElem?_cons_succ, or_n0, bit_r, fi0, fi1, fi2, fi3, nI_toInt, nI_add, pk_mul, nI_leI, nI_ltI, nI_eq, pk_sub, ib_nI, nI_clamp, va_up_self, va_up_ne, va_up_up, va_up_comm, pk_us, pk_un, upd_up, updL_up, pk_uLs, pk_uLn, b01_1, b01_0, b01_1s, b01_0s, or_b, e1, show ¬ 48 ≤ c by omega]
  · by_cases e2 : 57 < c
    · simp (disch := omega) [w22_0, w22_1, w22_3, w22_6, w22_7, w22_9, w22_12, w22_13, w22_16, w22_17, ow22, rt22, in22, aw_st, ai_cls, ai_len, ai_p, ai_sw, ai_m, ai_c, ai_at, ai_isI, ai_isJ, ai_isA, ai_ld, ai_1i, ai_2i, ai_2l, ai_cn, ai_j, ai_set, ai_set2, ai_nl, ai_rs, ai_sm, Value.category, hk0, hk1, lits, litb, litm, litm2, List.getElem?_cons_zero, List.getElem?_cons_succ, or_n0, bit_r, fi0, fi1, fi2, fi3, nI_toInt, nI_add, pk_mul, nI_leI, nI_ltI, nI_eq, pk_sub, ib_nI, nI_clamp, va_up_self, va_up_ne, va_up_up, va_up_comm, pk_us, pk_un, upd_up, updL_up, pk_uLs, pk_uLn, b01_1, b01_0, b01_1s, b01_0s, or_b, e1, e2, show ¬ c ≤ 57 by omega]
    · simp (disch := omega) [w22_0, w22_1, w22_3, w22_6, w22_7, w22_9, w22_12, w22_13, w22_16, w22_17, ow22, rt22, in22, aw_st, ai_cls, ai_len, ai_p, ai_sw, ai_m, ai_c, ai_at, ai_isI, ai_isJ, ai_isA, ai_ld, ai_1i, ai_2i, ai_2l, ai_cn, ai_j, ai_set, ai_set2, ai_nl, ai_rs, ai_sm, Value.category, hk0, hk1, lits, litb, litm, litm2, List.getElem?_cons_zero, List.getElem?_cons_succ, or_n0, bit_r, fi0, fi1, fi2, fi3, nI_toInt, nI_add, pk_mul, nI_leI, nI_ltI, nI_eq, pk_sub, ib_nI, nI_clamp, va_up_self, va_up_ne, va_up_up, va_up_comm, pk_us, pk_un, upd_up, updL_up, pk_uLs, pk_uLn, b01_1, b01_0, b01_1s, b01_0s, or_b, e1, e2, show 48 ≤ c by omega, show c ≤ 57 by omega]
theorem sign_eq {k : Nat} {M : ai_M} {c : Nat} (hc : c < 256) : aw ET G d 25 0 [some (.int (nI c))] [] k sl M Q = Q [.int (b01 (isSg c = true))] k sl M := by
  unfold isSg b01
  by_cases e1 : c = 59
  · subst e1; simp (disch := omega) [w25_0, w25_1, w25_3, w25_6, w25_7, w25_9, w25_12, w25_13, w25_15, w25_18, w25_19, w25_21, w25_24, w25_25, w25_27, w25_30, w25_31, w25_33, w25_36, w25_37, w25_40, w25_41, ow25, rt25, in25, aw_st, ai_cls, ai_len, ai_p, ai_sw, ai_m, ai_c, ai_at, ai_isI, ai_isJ, ai_isA, ai_ld, ai_1i, ai_2i, ai_2l, ai_cn, ai_j, ai_set, ai_set2, ai_nl, ai_rs, ai_sm, Value.category, hk0, hk1, lits, litb, litm, litm2, List.getElem?_cons_zero, List.getElem?_cons_succ, or_n0, bit_r, fi0, fi1, fi2, fi3, nI_toInt, nI_add, pk_mul, nI_leI, nI_ltI, nI_eq, pk_sub, ib_nI, nI_clamp, va_up_self, va_up_ne, va_up_up, va_up_comm, pk_us, pk_un, upd_up, updL_up, pk_uLs, pk_uLn, b01_1, b01_0, b01_1s, b01_0s, or_b]
  · by_cases e2 : c = 60
    · subst e2; simp (disch := omega) [w25_0, w25_1, w25_3, w25_6, w25_7, w25_9, w25_12, w25_13, w25_15, w25_18, w25_19, w25_21, w25_24, w25_25, w25_27, w25_30, w25_31, w25_33, w25_36, w25_37, w25_40, w25_41, ow25, rt25, in25, aw_st, ai_cls, ai_len, ai_p, ai_sw, ai_m, ai_c, ai_at, ai_isI, ai_isJ, ai_isA, ai_ld, ai_1i, ai_2i, ai_2l, ai_cn, ai_j, ai_set, ai_set2, ai_nl, ai_rs, ai_sm, Value.category, hk0, hk1, lits, litb, litm, litm2, List.getElem?_cons_zero, List.getElem?_cons_succ, or_n0, bit_r, fi0, fi1, fi2, fi3, nI_toInt, nI_add, pk_mul, nI_leI, nI_ltI, nI_eq, pk_sub, ib_nI, nI_clamp, va_up_self, va_up_ne, va_up_up, va_up_comm, pk_us, pk_un, upd_up, updL_up, pk_uLs, pk_uLn, b01_1, b01_0, b01_1s, b01_0s, or_b]
    · by_cases e3 : c = 61
      · subst e3; simp (disch := omega) [w25_0, w25_1, w25_3, w25_6, w25_7, w25_9, w25_12, w25_13, w25_15, w25_18, w25_19, w25_21, w25_24, w25_25, w25_27, w25_30, w25_31, w25_33, w25_36, w25_37, w25_40, w25_41, ow25, rt25, in25, aw_st, ai_cls, ai_len, ai_p, ai_sw, ai_m, ai_c, ai_at, ai_isI, ai_isJ, ai_isA, ai_ld, ai_1i, ai_2i, ai_2l, ai_cn, ai_j, ai_set, ai_set2, ai_nl, ai_rs, ai_sm, Value.category, hk0, hk1, lits, litb, litm, litm2, List.getElem?_cons_zero, List.getElem?_cons_succ, or_n0, bit_r, fi0, fi1, fi2, fi3, nI_toInt, nI_add, pk_mul, nI_leI, nI_ltI, nI_eq, pk_sub, ib_nI, nI_clamp, va_up_self, va_up_ne, va_up_up, va_up_comm, pk_us, pk_un, upd_up, updL_up, pk_uLs, pk_uLn, b01_1, b01_0, b01_1s, b01_0s, or_b]
      · by_cases e4 : c = 62
        · subst e4; simp (disch := omega) [w25_0, w25_1, w25_3, w25_6, w25_7, w25_9, w25_12, w25_13, w25_15, w25_18, w25_19, w25_21, w25_24, w25_25, w25_27, w25_30, w25_31, w25_33, w25_36, w25_37, w25_40, w25_41, ow25, rt25, in25, aw_st, ai_cls, ai_len, ai_p, ai_sw, ai_m, ai_c, ai_at, ai_isI, ai_isJ, ai_isA, ai_ld, ai_1i, ai_2i, ai_2l, ai_cn, ai_j, ai_set, ai_set2, ai_nl, ai_rs, ai_sm, Value.category, hk0, hk1, lits, litb, litm, litm2, List.getElem?_cons_zero, List.getElem?_cons_succ, or_n0, bit_r, fi0, fi1, fi2, fi3, nI_toInt, nI_add, pk_mul, nI_leI, nI_ltI, nI_eq, pk_sub, ib_nI, nI_clamp, va_up_self, va_up_ne, va_up_up, va_up_comm, pk_us, pk_un, upd_up, updL_up, pk_uLs, pk_uLn, b01_1, b01_0, b01_1s, b01_0s, or_b]
        · by_cases e5 : c = 40
          · subst e5; simp (disch := omega) [w25_0, w25_1, w25_3, w25_6, w25_7, w25_9, w25_12, w25_13, w25_15, w25_18, w25_19, w25_21, w25_24, w25_25, w25_27, w25_30, w25_31, w25_33, w25_36, w25_37, w25_40, w25_41, ow25, rt25, in25, aw_st, ai_cls, ai_len, ai_p, ai_sw, ai_m, ai_c, ai_at, ai_isI, ai_isJ, ai_isA, ai_ld, ai_1i, ai_2i, ai_2l, ai_cn, ai_j, ai_set, ai_set2, ai_nl, ai_rs, ai_sm, Value.category, hk0, hk1, lits, litb, litm, litm2, List.getElem?_cons_zero, List.getElem?_cons_succ, or_n0, bit_r, fi0, fi1, fi2, fi3, nI_toInt, nI_add, pk_mul, nI_leI, nI_ltI, nI_eq, pk_sub, ib_nI, nI_clamp, va_up_self, va_up_ne, va_up_up, va_up_comm, pk_us, pk_un, upd_up, updL_up, pk_uLs, pk_uLn, b01_1, b01_0, b01_1s, b01_0s, or_b]
          · by_cases e6 : c = 41
            · subst e6; simp (disch := omega) [w25_0, w25_1, w25_3, w25_6, w25_7, w25_9, w25_12, w25_13, w25_15, w25_18, w25_19, w25_21, w25_24, w25_25, w25_27, w25_30, w25_31, w25_33, w25_36, w25_37, w25_40, w25_41, ow25, rt25, in25, aw_st, ai_cls, ai_len, ai_p, ai_sw, ai_m, ai_c, ai_at, ai_isI, ai_isJ, ai_isA, ai_ld, ai_1i, ai_2i, ai_2l, ai_cn, ai_j, ai_set, ai_set2, ai_nl, ai_rs, ai_sm, Value.category, hk0, hk1, lits, litb, litm, litm2, List.getElem?_cons_zero, List.getElem?_cons_succ, or_n0, bit_r, fi0, fi1, fi2, fi3, nI_toInt, nI_add, pk_mul, nI_leI, nI_ltI, nI_eq, pk_sub, ib_nI, nI_clamp, va_up_self, va_up_ne, va_up_up, va_up_comm, pk_us, pk_un, upd_up, updL_up, pk_uLs, pk_uLn, b01_1, b01_0, b01_1s, b01_0s, or_b]
            · simp (disch := omega) [w25_0, w25_1, w25_3, w25_6, w25_7, w25_9, w25_12, w25_13, w25_15, w25_18, w25_19, w25_21, w25_24, w25_25, w25_27, w25_30, w25_31, w25_33, w25_36, w25_37, w25_40, w25_41, ow25, rt25, in25, aw_st, ai_cls, ai_len, ai_p, ai_sw, ai_m, ai_c, ai_at, ai_isI, ai_isJ, ai_isA, ai_ld, ai_1i, ai_2i, ai_2l, ai_cn, ai_j, ai_set, ai_set2, ai_nl, ai_rs, ai_sm, Value.category, hk0, hk1, lits, litb, litm, litm2, List.getElem?_cons_zero, List.getElem?_cons_succ, or_n0, bit_r, fi0, fi1, fi2, fi3, nI_toInt, nI_add, pk_mul, nI_leI, nI_ltI, nI_eq, pk_sub, ib_nI, nI_clamp, va_up_self, va_up_ne, va_up_up, va_up_comm, pk_us, pk_un, upd_up, updL_up, pk_uLs, pk_uLn, b01_1, b01_0, b01_1s, b01_0s, or_b, e1, e2, e3, e4, e5, e6]
theorem min_I {a b : Nat} (ha : a ≤ 940) (hb : b ≤ 940) : (if nI b < nI a then nI b else nI a) = nI (min a b) := by
  by_cases h : b < a
  · rw [if_pos (nI_lt h (by omega)), Nat.min_eq_right (by omega)]
  · rw [if_neg (fun e => h ((nI_ltI (by omega) (by omega)).mp e)), Nat.min_eq_left (by omega)]
set_option maxHeartbeats 4000000 in
theorem stepToEnd_eq (h1 : X 2 1 = nI n) (h2 : X 2 2 = nI lim) (hn : n ≤ 940) (hl : lim ≤ 940) : aw ET G (d + 1) 20 0 [some (.ref 2)] [] 231 sl (mem X Y) Q = Q [] 231 sl (mem (va_up X 2 (upd (upd (upd (X 2) 4 (nI (if lim < n then 1 else 0))) 5 (nI (min n lim))) 3 (nI (min n lim)))) Y) := by
  by_cases e : lim < n
  · have em : min n lim = lim := Nat.min_eq_right (by omega)
    simp (disch := omega) [w20_0, w20_1, x20_2_2, w20_5, x20_6_2, w20_9, w20_12, w20_13, w20_16, x20_17, w20_20, w20_21, x20_22_2, w20_25, x20_26_2, w20_29, x20_32, w20_35, w20_36, x20_37_2, x20_40, w20_43, rt20, ow20, pl7_44, aw_st, ai_cls, ai_len, ai_p, ai_sw, ai_m, ai_c, ai_at, ai_isI, ai_isJ, ai_isA, ai_ld, ai_1i, ai_2i, ai_2l, ai_cn, ai_j, ai_set, ai_set2, ai_nl, ai_rs, ai_sm, Value.category, hk0, hk1, lits, litb, litm, litm2, List.getElem?_cons_zero, List.getElem?_cons_succ, or_n0, bit_r, fi0, fi1, fi2, fi3, nI_toInt, nI_add, pk_mul, nI_leI, nI_ltI, nI_eq, pk_sub, ib_nI, nI_clamp, va_up_self, va_up_ne, va_up_up, va_up_comm, pk_us, pk_un, upd_up, updL_up, pk_uLs, pk_uLn, b01_1, b01_0, b01_1s, b01_0s, or_b, h1, h2, e, em, show ¬ n ≤ lim by omega]
  · have em : min n lim = n := Nat.min_eq_left (by omega)
    simp (disch := omega) [w20_0, w20_1, x20_2_2, w20_5, x20_6_2, w20_9, w20_12, w20_13, w20_16, x20_17, w20_20, w20_21, x20_22_2, w20_25, x20_26_2, w20_29, x20_32, w20_35, w20_36, x20_37_2, x20_40, w20_43, rt20, ow20, pl7_44, aw_st, ai_cls, ai_len, ai_p, ai_sw, ai_m, ai_c, ai_at, ai_isI, ai_isJ, ai_isA, ai_ld, ai_1i, ai_2i, ai_2l, ai_cn, ai_j, ai_set, ai_set2, ai_nl, ai_rs, ai_sm, Value.category, hk0, hk1, lits, litb, litm, litm2, List.getElem?_cons_zero, List.getElem?_cons_succ, or_n0, bit_r, fi0, fi1, fi2, fi3, nI_toInt, nI_add, pk_mul, nI_leI, nI_ltI, nI_eq, pk_sub, ib_nI, nI_clamp, va_up_self, va_up_ne, va_up_up, va_up_comm, pk_us, pk_un, upd_up, updL_up, pk_uLs, pk_uLn, b01_1, b01_0, b01_1s, b01_0s, or_b, h1, h2, e, em, show n ≤ lim by omega]
theorem rnR_s (t : Nat → Nat) (r i : Nat) : rnR t (r + 1) i = if isAD (t i) = true then rnR t r (i + 1) + 1 else 0 := rfl
def s5 (a : Int64) (c : Nat) : Int64 := (a <<< ((nI 5).toInt64 &&& 63)) ||| (nI (c - 97 + 1)).toInt64
def F5 (t : Nat → Nat) (p : Nat) : Nat → Int64
  | 0 => 0
  | k + 1 => if isAl (t (p + k)) = true then s5 (F5 t p k) (t (p + k)) else F5 t p k
def F10 (t : Nat → Nat) (p : Nat) : Nat → Int32
  | 0 => nI 0
  | k + 1 => if isAl (t (p + k)) = true then F10 t p k else F10 t p k * nI 10 + nI (t (p + k)) - nI 48
theorem s5_nat {m c : Nat} (hm : m < 2 ^ 40) (h1 : 97 ≤ c) (h2 : c ≤ 122) : s5 (lN m) c = lN (m * 32 + (c - 96)) := by
  unfold s5
  rw [wb_shl m (by omega), nI_l (by omega), show c - 97 + 1 = c - 96 by omega, show 2 ^ 5 = 32 from rfl]
  exact g_or (k := 5) rfl (by omega) (by omega)
theorem F5_nat : ∀ k, cDg t p k = 0 → k ≤ 7 → F5 t p k = lN (v5 (fw t p k)) ∧ v5 (fw t p k) < 32 ^ k := by
  intro k
  induction k with
  | zero => intro _ _; exact ⟨rfl, by simp [fw, v5, wr]⟩
  | succ k ih =>
    intro h hk
    have hal : isAl (t (p + k)) = true := by
      unfold cDg at h
      split at h
      · assumption
      · omega
    obtain ⟨e1, e2⟩ := ih (by unfold cDg at h; omega) (by omega)
    have hb : 97 ≤ t (p + k) ∧ t (p + k) ≤ 122 := by unfold isAl at hal; simpa using hal
    have e3 : v5 (fw t p (k + 1)) = v5 (fw t p k) * 32 + (t (p + k) - 96) := by unfold v5; rw [fw_rev]; rfl
    have h7 : 32 ^ k ≤ 32 ^ 7 := Nat.pow_le_pow_right (by omega) (by omega)
    unfold F5
    rw [if_pos hal, e1, s5_nat (by omega) hb.1 hb.2, e3]
    refine ⟨rfl, ?_⟩
    rw [Nat.pow_succ]
    have : (v5 (fw t p k) + 1) * 32 ≤ 32 ^ k * 32 := Nat.mul_le_mul_right _ e2
    omega
theorem F10_nat : ∀ k, cAl t p k = 0 → k ≤ 3 → (∀ j, j < k → 48 ≤ t (p + j) ∧ t (p + j) ≤ 57) → F10 t p k = nI (wr 10 48 (fw t p k).reverse) ∧ wr 10 48 (fw t p k).reverse < 10 ^ k := by
  intro k
  induction k with
  | zero => intro _ _ _; exact ⟨rfl, by simp [fw, wr]⟩
  | succ k ih =>
    intro h hk hd
    have hal : ¬ isAl (t (p + k)) = true := by
      unfold cAl at h
      split at h
      · omega
      · assumption
    obtain ⟨e1, e2⟩ := ih (by unfold cAl at h; omega) (by omega) (fun j hj => hd j (by omega))
    have hb := hd k (by omega)
    have h7 : 10 ^ k ≤ 10 ^ 3 := Nat.pow_le_pow_right (by omega) (by omega)
    unfold F10
    rw [if_neg hal, e1, fw_rev, pk_mul, nI_add, pk_sub (by omega)]
    simp only [wr]
    refine ⟨by rw [Nat.add_sub_assoc hb.1], ?_⟩
    rw [Nat.pow_succ]
    have : (wr 10 48 (fw t p k).reverse + 1) * 10 ≤ 10 ^ k * 10 := Nat.mul_le_mul_right _ e2
    omega
set_option maxHeartbeats 8000000 in
theorem run_loop (h0 : X 2 0 = nI 1) (h1 : X 2 1 = nI n) (hT : TB8 (X 1) t) (hn : n ≤ 940) (hQ : ∀ (f : Nat → Int32) (z : Option Value), f 3 = nI (p + rnR t (n - p) p) → (∀ j, ¬ j = 3 → f j = X 2 j) → aw ET G d 23 126 [some (.ref 2), some (.int (nI (cAl t p (rnR t (n - p) p)))), some (.int (nI (cDg t p (rnR t (n - p) p)))), some (.long (F5 t p (rnR t (n - p) p))), none, some (.int (F10 t p (rnR t (n - p) p))), some (.int (nI (p + rnR t (n - p) p))), z] [] 231 sl (mem (va_up X 2 f) Y) Q) : ∀ (r k : Nat) (f : Nat → Int32) (z : Option Value), p + k + r = n → rnR t (n - p) p = k + rnR t r (p + k) → f 3 = nI n → (∀ j, ¬ j = 3 → f j = X 2 j) → aw ET G d 23 23 [some (.ref 2), some (.int (nI (cAl t p k))), some (.int (nI (cDg t p k))), some (.long (F5 t p k)), none, some (.int (F10 t p k)), some (.int (nI (p + k))), z] [] 231 sl (mem (va_up X 2 f) Y) Q := by
  intro r
  induction r with
  | zero =>
    intro k f z hk he h3 hf
    have e : rnR t (n - p) p = k := he
    have f1 : f 1 = nI n := by rw [hf 1 (by omega)]; exact h1
    rw [e] at hQ
    have := hQ f z (by rw [h3]; congr 1; omega) hf
    simp (disch := omega) [w23_23, w23_25, x23_26_2, w23_29, aw_st, ai_cls, ai_len, ai_p, ai_sw, ai_m, ai_c, ai_at, ai_isI, ai_isJ, ai_isA, ai_ld, ai_1i, ai_2i, ai_2l, ai_cn, ai_j, ai_set, ai_set2, ai_nl, ai_rs, ai_sm, Value.category, hk0, hk1, lits, litb, litm, litm2, List.getElem?_cons_zero, List.getElem?_cons_succ, or_n0, bit_r, fi0, fi1, fi2, fi3, nI_toInt, nI_add, pk_mul, nI_leI, nI_ltI, nI_eq, pk_sub, ib_nI, nI_clamp, va_up_self, va_up_ne, va_up_up, va_up_comm, pk_us, pk_un, upd_up, updL_up, pk_uLs, pk_uLn, b01_1, b01_0, b01_1s, b01_0s, or_b, f1, show n ≤ p + k by omega]
    exact this
  | succ r ih =>
    intro k f z hk he h3 hf
    obtain ⟨ht, hx⟩ := hT (p + k) (by omega)
    have f1 : f 1 = nI n := by rw [hf 1 (by omega)]; exact h1
    have f0 : f 0 = nI 1 := by rw [hf 0 (by omega)]; exact h0
    rw [w23_23]
    by_cases al : isAl (t (p + k)) = true
    · have hb : 97 ≤ t (p + k) ∧ t (p + k) ≤ 122 := by unfold isAl at al; simpa using al
      have := ih (k + 1) f (some (.int (nI (t (p + k))))) (by omega) (by rw [he, rnR_s, if_pos (by unfold isAD; rw [al]; rfl), show p + k + 1 = p + (k + 1) by omega]; omega) h3 hf
      have ea : cAl t p (k + 1) = cAl t p k + 1 := by rw [cAl, if_pos al]
      have ed : cDg t p (k + 1) = cDg t p k := by rw [cDg, if_pos al, Nat.add_zero]
      have e5 : F5 t p (k + 1) = s5 (F5 t p k) (t (p + k)) := by rw [F5, if_pos al]
      have e10 : F10 t p (k + 1) = F10 t p k := by rw [F10, if_pos al]
      rw [ea, ed, e5, e10] at this
      unfold s5 at this
      simp (disch := omega) [w23_0, w23_1, w23_2, w23_3, w23_4, w23_5, w23_6, w23_7, w23_10, x23_11_2, x23_14, w23_21, w23_25, x23_26_2, w23_29, w23_32, x23_33_2, w23_36, w23_38, w23_39, w23_42, w23_43, w23_45, w23_47, w23_49, w23_52, w23_54, w23_56, w23_59, w23_62, w23_63, w23_64, w23_65, w23_67, w23_69, w23_70, w23_71, w23_72, w23_73, w23_74, w23_75, w23_78, w23_80, w23_82, w23_85, w23_87, w23_89, w23_92, w23_95, w23_97, w23_99, w23_100, w23_102, w23_103, w23_105, w23_106, w23_108, w23_111, w23_112, x23_114, w23_117, w23_120, w23_123, w23_127, w23_130, w23_131, w23_133, w23_136, w23_137, x23_138, w23_141, w23_142, x23_143, w23_146, w23_149, w23_150, w23_153, w23_154, w23_155, w23_158, w23_159, x23_160, w23_163, w23_164, x23_166, w23_169, w23_172, w23_173, x23_174, w23_177, rt23, aw_st, ai_cls, ai_len, ai_p, ai_sw, ai_m, ai_c, ai_at, ai_isI, ai_isJ, ai_isA, ai_ld, ai_1i, ai_2i, ai_2l, ai_cn, ai_j, ai_set, ai_set2, ai_nl, ai_rs, ai_sm, Value.category, hk0, hk1, lits, litb, litm, litm2, List.getElem?_cons_zero, List.getElem?_cons_succ, or_n0, bit_r, fi0, fi1, fi2, fi3, nI_toInt, nI_add, pk_mul, nI_leI, nI_ltI, nI_eq, pk_sub, ib_nI, nI_clamp, va_up_self, va_up_ne, va_up_up, va_up_comm, pk_us, pk_un, upd_up, updL_up, pk_uLs, pk_uLn, b01_1, b01_0, b01_1s, b01_0s, or_b, f0, f1, mm1, hx, bI_and, show ¬ n ≤ p + k by omega, show ¬ t (p + k) < 97 by omega, show ¬ 122 < t (p + k) by omega]
      exact this
    · by_cases dg : isDg (t (p + k)) = true
      · have hb : 48 ≤ t (p + k) ∧ t (p + k) ≤ 57 := by unfold isDg at dg; simpa using dg
        have := ih (k + 1) f (some (.int (nI (t (p + k))))) (by omega) (by rw [he, rnR_s, if_pos (by unfold isAD; rw [dg]; simp), show p + k + 1 = p + (k + 1) by omega]; omega) h3 hf
        have ea : cAl t p (k + 1) = cAl t p k := by rw [cAl, if_neg al]; rfl
        have ed : cDg t p (k + 1) = cDg t p k + 1 := by rw [cDg, if_neg al]
        have e5 : F5 t p (k + 1) = F5 t p k := by rw [F5, if_neg al]
        have e10 : F10 t p (k + 1) = F10 t p k * nI 10 + nI (t (p + k)) - nI 48 := by rw [F10, if_neg al]
        rw [ea, ed, e5, e10] at this
        simp (disch := omega) [w23_0, w23_1, w23_2, w23_3, w23_4, w23_5, w23_6, w23_7, w23_10, x23_11_2, x23_14, w23_21, w23_25, x23_26_2, w23_29, w23_32, x23_33_2, w23_36, w23_38, w23_39, w23_42, w23_43, w23_45, w23_47, w23_49, w23_52, w23_54, w23_56, w23_59, w23_62, w23_63, w23_64, w23_65, w23_67, w23_69, w23_70, w23_71, w23_72, w23_73, w23_74, w23_75, w23_78, w23_80, w23_82, w23_85, w23_87, w23_89, w23_92, w23_95, w23_97, w23_99, w23_100, w23_102, w23_103, w23_105, w23_106, w23_108, w23_111, w23_112, x23_114, w23_117, w23_120, w23_123, w23_127, w23_130, w23_131, w23_133, w23_136, w23_137, x23_138, w23_141, w23_142, x23_143, w23_146, w23_149, w23_150, w23_153, w23_154, w23_155, w23_158, w23_159, x23_160, w23_163, w23_164, x23_166, w23_169, w23_172, w23_173, x23_174, w23_177, rt23, aw_st, ai_cls, ai_len, ai_p, ai_sw, ai_m, ai_c, ai_at, ai_isI, ai_isJ, ai_isA, ai_ld, ai_1i, ai_2i, ai_2l, ai_cn, ai_j, ai_set, ai_set2, ai_nl, ai_rs, ai_sm, Value.category, hk0, hk1, lits, litb, litm, litm2, List.getElem?_cons_zero, List.getElem?_cons_succ, or_n0, bit_r, fi0, fi1, fi2, fi3, nI_toInt, nI_add, pk_mul, nI_leI, nI_ltI, nI_eq, pk_sub, ib_nI, nI_clamp, va_up_self, va_up_ne, va_up_up, va_up_comm, pk_us, pk_un, upd_up, updL_up, pk_uLs, pk_uLn, b01_1, b01_0, b01_1s, b01_0s, or_b, f0, f1, mm1, hx, bI_and, show ¬ n ≤ p + k by omega, show t (p + k) < 97 by omega, show ¬ t (p + k) < 48 by omega, show ¬ 57 < t (p + k) by omega]
        exact this
      · have e : rnR t (n - p) p = k := by
          rw [he, rnR_s, if_neg (by unfold isAD; simp [al, dg])]; rfl
        rw [e] at hQ
        have := hQ (upd f 3 (nI (p + k))) (some (.int (nI (t (p + k))))) (by simp [upd]) (fun j hj => by rw [pk_un hj]; exact hf j hj)
        have hb : ¬ (97 ≤ t (p + k) ∧ t (p + k) ≤ 122) := by unfold isAl at al; simpa using al
        have hb2 : ¬ (48 ≤ t (p + k) ∧ t (p + k) ≤ 57) := by unfold isDg at dg; simpa using dg
        by_cases c1 : t (p + k) < 97
        · by_cases c2 : t (p + k) < 48
          · simp (disch := omega) [w23_0, w23_1, w23_2, w23_3, w23_4, w23_5, w23_6, w23_7, w23_10, x23_11_2, x23_14, w23_21, w23_25, x23_26_2, w23_29, w23_32, x23_33_2, w23_36, w23_38, w23_39, w23_42, w23_43, w23_45, w23_47, w23_49, w23_52, w23_54, w23_56, w23_59, w23_62, w23_63, w23_64, w23_65, w23_67, w23_69, w23_70, w23_71, w23_72, w23_73, w23_74, w23_75, w23_78, w23_80, w23_82, w23_85, w23_87, w23_89, w23_92, w23_95, w23_97, w23_99, w23_100, w23_102, w23_103, w23_105, w23_106, w23_108, w23_111, w23_112, x23_114, w23_117, w23_120, w23_123, w23_127, w23_130, w23_131, w23_133, w23_136, w23_137, x23_138, w23_141, w23_142, x23_143, w23_146, w23_149, w23_150, w23_153, w23_154, w23_155, w23_158, w23_159, x23_160, w23_163, w23_164, x23_166, w23_169, w23_172, w23_173, x23_174, w23_177, rt23, aw_st, ai_cls, ai_len, ai_p, ai_sw, ai_m, ai_c, ai_at, ai_isI, ai_isJ, ai_isA, ai_ld, ai_1i, ai_2i, ai_2l, ai_cn, ai_j, ai_set, ai_set2, ai_nl, ai_rs, ai_sm, Value.category, hk0, hk1, lits, litb, litm, litm2, List.getElem?_cons_zero, List.getElem?_cons_succ, or_n0, bit_r, fi0, fi1, fi2, fi3, nI_toInt, nI_add, pk_mul, nI_leI, nI_ltI, nI_eq, pk_sub, ib_nI, nI_clamp, va_up_self, va_up_ne, va_up_up, va_up_comm, pk_us, pk_un, upd_up, updL_up, pk_uLs, pk_uLn, b01_1, b01_0, b01_1s, b01_0s, or_b, f0, f1, mm1, hx, bI_and, show ¬ n ≤ p + k by omega, c1, c2]
            exact this
          · simp (disch := omega) [w23_0, w23_1, w23_2, w23_3, w23_4, w23_5, w23_6, w23_7, w23_10, x23_11_2, x23_14, w23_21, w23_25, x23_26_2, w23_29, w23_32, x23_33_2, w23_36, w23_38, w23_39, w23_42, w23_43, w23_45, w23_47, w23_49, w23_52, w23_54, w23_56, w23_59, w23_62, w23_63, w23_64, w23_65, w23_67, w23_69, w23_70, w23_71, w23_72, w23_73, w23_74, w23_75, w23_78, w23_80, w23_82, w23_85, w23_87, w23_89, w23_92, w23_95, w23_97, w23_99, w23_100, w23_102, w23_103, w23_105, w23_106, w23_108, w23_111, w23_112, x23_114, w23_117, w23_120, w23_123, w23_127, w23_130, w23_131, w23_133, w23_136, w23_137, x23_138, w23_141, w23_142, x23_143, w23_146, w23_149, w23_150, w23_153, w23_154, w23_155, w23_158, w23_159, x23_160, w23_163, w23_164, x23_166, w23_169, w23_172, w23_173, x23_174, w23_177, rt23, aw_st, ai_cls, ai_len, ai_p, ai_sw, ai_m, ai_c, ai_at, ai_isI, ai_isJ, ai_isA, ai_ld, ai_1i, ai_2i, ai_2l, ai_cn, ai_j, ai_set, ai_set2, ai_nl, ai_rs, ai_sm, Value.category, hk0, hk1, lits, litb, litm, litm2, List.getElem?_cons_zero, List.getElem?_cons_succ, or_n0, bit_r, fi0, fi1, fi2, fi3, nI_toInt, nI_add, pk_mul, nI_leI, nI_ltI, nI_eq, pk_sub, ib_nI, nI_clamp, va_up_self, va_up_ne, va_up_up, va_up_comm, pk_us, pk_un, upd_up, updL_up, pk_uLs, pk_uLn, b01_1, b01_0, b01_1s, b01_0s, or_b, f0, f1, mm1, hx, bI_and, show ¬ n ≤ p + k by omega, c1, c2, show 57 < t (p + k) by omega]
            exact this
        · simp (disch := omega) [w23_0, w23_1, w23_2, w23_3, w23_4, w23_5, w23_6, w23_7, w23_10, x23_11_2, x23_14, w23_21, w23_25, x23_26_2, w23_29, w23_32, x23_33_2, w23_36, w23_38, w23_39, w23_42, w23_43, w23_45, w23_47, w23_49, w23_52, w23_54, w23_56, w23_59, w23_62, w23_63, w23_64, w23_65, w23_67, w23_69, w23_70, w23_71, w23_72, w23_73, w23_74, w23_75, w23_78, w23_80, w23_82, w23_85, w23_87, w23_89, w23_92, w23_95, w23_97, w23_99, w23_100, w23_102, w23_103, w23_105, w23_106, w23_108, w23_111, w23_112, x23_114, w23_117, w23_120, w23_123, w23_127, w23_130, w23_131, w23_133, w23_136, w23_137, x23_138, w23_141, w23_142, x23_143, w23_146, w23_149, w23_150, w23_153, w23_154, w23_155, w23_158, w23_159, x23_160, w23_163, w23_164, x23_166, w23_169, w23_172, w23_173, x23_174, w23_177, rt23, aw_st, ai_cls, ai_len, ai_p, ai_sw, ai_m, ai_c, ai_at, ai_isI, ai_isJ, ai_isA, ai_ld, ai_1i, ai_2i, ai_2l, ai_cn, ai_j, ai_set, ai_set2, ai_nl, ai_rs, ai_sm, Value.category, hk0, hk1, lits, litb, litm, litm2, List.getElem?_cons_zero, List.getElem?_cons_succ, or_n0, bit_r, fi0, fi1, fi2, fi3, nI_toInt, nI_add, pk_mul, nI_leI, nI_ltI, nI_eq, pk_sub, ib_nI, nI_clamp, va_up_self, va_up_ne, va_up_up, va_up_comm, pk_us, pk_un, upd_up, updL_up, pk_uLs, pk_uLn, b01_1, b01_0, b01_1s, b01_0s, or_b, f0, f1, mm1, hx, bI_and, show ¬ n ≤ p + k by omega, c1, show 122 < t (p + k) by omega, show ¬ t (p + k) < 48 by omega, show 57 < t (p + k) by omega]
          exact this
end TKC
