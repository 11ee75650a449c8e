/-! THE REFERENCE, I: numbers, small words -/
section RFA
variable {G : ai_G} {d n sl : Nat} {M : ai_M} {X : mX} {Y : mY} {Q : List Value → Nat → Nat → ai_M → Prop}
theorem lits : (0 : Int32) = nI 0 ∧ (1 : Int32) = nI 1 ∧ (2 : Int32) = nI 2 ∧ (3 : Int32) = nI 3 ∧ (4 : Int32) = nI 4 ∧ (5 : Int32) = nI 5 ∧ (6 : Int32) = nI 6 ∧ (7 : Int32) = nI 7 ∧ (8 : Int32) = nI 8 ∧ (9 : Int32) = nI 9 ∧ (10 : Int32) = nI 10 ∧ (11 : Int32) = nI 11 ∧ (12 : Int32) = nI 12 ∧ (13 : Int32) = nI 13 ∧ (14 : Int32) = nI 14 ∧ (15 : Int32) = nI 15 ∧ (16 : Int32) = nI 16 ∧ (17 : Int32) = nI 17 ∧ (18 : Int32) = nI 18 ∧ (19 : Int32) = nI 19 ∧ (20 : Int32) = nI 20 ∧ (21 : Int32) = nI 21 ∧ (22 : Int32) = nI 22 ∧ (23 : Int32) = nI 23 ∧ (24 : Int32) = nI 24 ∧ (25 : Int32) = nI 25 ∧ (26 : Int32) = nI 26 ∧ (27 : Int32) = nI 27 ∧ (28 : Int32) = nI 28 ∧ (29 : Int32) = nI 29 ∧ (30 : Int32) = nI 30 ∧ (32 : Int32) = nI 32 ∧ (36 : Int32) = nI 36 ∧ (40 : Int32) = nI 40 ∧ (41 : Int32) = nI 41 ∧ (44 : Int32) = nI 44 ∧ (45 : Int32) = nI 45 ∧ (47 : Int32) = nI 47 ∧ (48 : Int32) = nI 48 ∧ (50 : Int32) = nI 50 ∧ (52 : Int32) = nI 52 ∧ (57 : Int32) = nI 57 ∧ (58 : Int32) = nI 58 ∧ (59 : Int32) = nI 59 ∧ (60 : Int32) = nI 60 ∧ (61 : Int32) = nI 61 ∧ (62 : Int32) = nI 62 ∧ (63 : Int32) = nI 63 ∧ (64 : Int32) = nI 64 ∧ (68 : Int32) = nI 68 ∧ (90 : Int32) = nI 90 ∧ (97 : Int32) = nI 97 ∧ (99 : Int32) = nI 99 ∧ (100 : Int32) = nI 100 ∧ (122 : Int32) = nI 122 ∧ (125 : Int32) = nI 125 ∧ (132 : Int32) = nI 132 ∧ (133 : Int32) = nI 133 ∧ (134 : Int32) = nI 134 ∧ (135 : Int32) = nI 135 ∧ (136 : Int32) = nI 136 ∧ (137 : Int32) = nI 137 ∧ (145 : Int32) = nI 145 ∧ (153 : Int32) = nI 153 ∧ (161 : Int32) = nI 161 ∧ (169 : Int32) = nI 169 ∧ (177 : Int32) = nI 177 ∧ (200 : Int32) = nI 200 ∧ (241 : Int32) = nI 241 ∧ (249 : Int32) = nI 249 ∧ (255 : Int32) = nI 255 ∧ (257 : Int32) = nI 257 ∧ (258 : Int32) = nI 258 ∧ (300 : Int32) = nI 300 ∧ (438 : Int32) = nI 438 ∧ (500 : Int32) = nI 500 ∧ (700 : Int32) = nI 700 ∧ (875 : Int32) = nI 875 ∧ (876 : Int32) = nI 876 ∧ (900 : Int32) = nI 900 ∧ (920 : Int32) = nI 920 ∧ (940 : Int32) = nI 940 ∧ (999 : Int32) = nI 999 ∧ (1000 : Int32) = nI 1000 ∧ (9999 : Int32) = nI 9999 ∧ (12345 : Int32) = nI 12345 := ⟨rfl, rfl, rfl, rfl, rfl, rfl, rfl, rfl, rfl, rfl, rfl, rfl, rfl, rfl, rfl, rfl, rfl, rfl, rfl, rfl, rfl, rfl, rfl, rfl, rfl, rfl, rfl, rfl, rfl, rfl, rfl, rfl, rfl, rfl, rfl, rfl, rfl, rfl, rfl, rfl, rfl, rfl, rfl, rfl, rfl, rfl, rfl, rfl, rfl, rfl, rfl, rfl, rfl, rfl, rfl, rfl, rfl, rfl, rfl, rfl, rfl, rfl, rfl, rfl, rfl, rfl, rfl, rfl, rfl, rfl, rfl, rfl, rfl, rfl, rfl, rfl, rfl, rfl, rfl, rfl, rfl, rfl, rfl, rfl, rfl, rfl⟩
theorem litb : (Int8.toInt32 6) = nI 6 ∧ (Int8.toInt32 7) = nI 7 ∧ (Int8.toInt32 8) = nI 8 ∧ (Int8.toInt32 9) = nI 9 ∧ (Int8.toInt32 10) = nI 10 ∧ (Int8.toInt32 11) = nI 11 ∧ (Int8.toInt32 12) = nI 12 ∧ (Int8.toInt32 13) = nI 13 ∧ (Int8.toInt32 14) = nI 14 ∧ (Int8.toInt32 15) = nI 15 ∧ (Int8.toInt32 16) = nI 16 ∧ (Int8.toInt32 17) = nI 17 ∧ (Int8.toInt32 18) = nI 18 ∧ (Int8.toInt32 19) = nI 19 ∧ (Int8.toInt32 20) = nI 20 ∧ (Int8.toInt32 21) = nI 21 ∧ (Int8.toInt32 22) = nI 22 ∧ (Int8.toInt32 23) = nI 23 ∧ (Int8.toInt32 24) = nI 24 ∧ (Int8.toInt32 28) = nI 28 ∧ (Int8.toInt32 30) = nI 30 ∧ (Int8.toInt32 32) = nI 32 ∧ (Int8.toInt32 36) = nI 36 ∧ (Int8.toInt32 40) = nI 40 ∧ (Int8.toInt32 41) = nI 41 ∧ (Int8.toInt32 44) = nI 44 ∧ (Int8.toInt32 45) = nI 45 ∧ (Int8.toInt32 48) = nI 48 ∧ (Int8.toInt32 50) = nI 50 ∧ (Int8.toInt32 52) = nI 52 ∧ (Int8.toInt32 57) = nI 57 ∧ (Int8.toInt32 59) = nI 59 ∧ (Int8.toInt32 60) = nI 60 ∧ (Int8.toInt32 61) = nI 61 ∧ (Int8.toInt32 62) = nI 62 ∧ (Int8.toInt32 63) = nI 63 ∧ (Int8.toInt32 64) = nI 64 ∧ (Int8.toInt32 68) = nI 68 ∧ (Int8.toInt32 90) = nI 90 ∧ (Int8.toInt32 97) = nI 97 ∧ (Int8.toInt32 99) = nI 99 ∧ (Int8.toInt32 100) = nI 100 ∧ (Int8.toInt32 122) = nI 122 ∧ (Int8.toInt32 125) = nI 125 ∧ (Int16.toInt32 132) = nI 132 ∧ (Int16.toInt32 133) = nI 133 ∧ (Int16.toInt32 134) = nI 134 ∧ (Int16.toInt32 135) = nI 135 ∧ (Int16.toInt32 136) = nI 136 ∧ (Int16.toInt32 137) = nI 137 ∧ (Int16.toInt32 145) = nI 145 ∧ (Int16.toInt32 153) = nI 153 ∧ (Int16.toInt32 161) = nI 161 ∧ (Int16.toInt32 169) = nI 169 ∧ (Int16.toInt32 177) = nI 177 ∧ (Int16.toInt32 200) = nI 200 ∧ (Int16.toInt32 241) = nI 241 ∧ (Int16.toInt32 249) = nI 249 ∧ (Int16.toInt32 255) = nI 255 ∧ (Int16.toInt32 257) = nI 257 ∧ (Int16.toInt32 258) = nI 258 ∧ (Int16.toInt32 300) = nI 300 ∧ (Int16.toInt32 438) = nI 438 ∧ (Int16.toInt32 500) = nI 500 ∧ (Int16.toInt32 875) = nI 875 ∧ (Int16.toInt32 876) = nI 876 ∧ (Int16.toInt32 900) = nI 900 ∧ (Int16.toInt32 920) = nI 920 ∧ (Int16.toInt32 940) = nI 940 ∧ (Int16.toInt32 999) = nI 999 ∧ (Int16.toInt32 1000) = nI 1000 ∧ (Int16.toInt32 9999) = nI 9999 ∧ (Int16.toInt32 12345) = nI 12345 := ⟨rfl, rfl, rfl, rfl, rfl, rfl, rfl, rfl, rfl, rfl, rfl, rfl, rfl, rfl, rfl, rfl, rfl, rfl, rfl, rfl, rfl, rfl, rfl, rfl, rfl, rfl, rfl, rfl, rfl, rfl, rfl, rfl, rfl, rfl, rfl, rfl, rfl, rfl, rfl, rfl, rfl, rfl, rfl, rfl, rfl, rfl, rfl, rfl, rfl, rfl, rfl, rfl, rfl, rfl, rfl, rfl, rfl, rfl, rfl, rfl, rfl, rfl, rfl, rfl, rfl, rfl, rfl, rfl, rfl, rfl, rfl, rfl, rfl⟩
/-- NONE -/
def mi1 : Int32 := -1
theorem litm : (-nI 1 : Int32) = mi1 := rfl
def mi2 : Int32 := -2
def mi1000 : Int32 := -1000
def mi1001 : Int32 := -1001
theorem litm2 : Int8.toInt32 (-2) = mi2 ∧ (-nI 2 : Int32) = mi2 ∧ Int16.toInt32 (-1000) = mi1000 ∧ (-nI 1000 : Int32) = mi1000 ∧ Int16.toInt32 (-1001) = mi1001 := ⟨by decide, rfl, by decide, rfl, by decide⟩
theorem or_n0 (x : Int32) : x ||| nI 0 = x := Int32.or_zero
theorem b01_1 {p : Prop} [Decidable p] : (b01 p = nI 1) = p := by unfold b01; by_cases h : p <;> simp [h] <;> decide
theorem b01_0 {p : Prop} [Decidable p] : (b01 p = nI 0) = ¬ p := by unfold b01; by_cases h : p <;> simp [h] <;> decide
theorem b01_1s {p : Prop} [Decidable p] : (nI 1 = b01 p) = p := by unfold b01; by_cases h : p <;> simp [h] <;> decide
theorem b01_0s {p : Prop} [Decidable p] : (nI 0 = b01 p) = ¬ p := by unfold b01; by_cases h : p <;> simp [h] <;> decide
theorem or_b {p : Prop} : (¬ p ∨ p) = True := by by_cases h : p <;> simp [h]
theorem upd_up (f : Nat → Int32) (i : Nat) (a b : Int32) : upd (upd f i a) i b = upd f i b := by funext j; simp only [upd]; split <;> rfl
theorem updL_up (f : Nat → Int64) (i : Nat) (a b : Int64) : vp_updL (vp_updL f i a) i b = vp_updL f i b := by funext j; simp only [vp_updL]; split <;> rfl
/-- a number of a PERSON, a STORY -/
def pI (P : Nat) (x : Int32) : Bool := decide (0 ≤ x ∧ x < nI P)
/-- a number between two -/
def inI (lo hi x : Int32) : Bool := decide (lo ≤ x ∧ x ≤ hi)
theorem pI_nat {P : Nat} (hP : P ≤ 1000) {x : Int32} : pI P x = true ↔ ∃ p, p < P ∧ x = nI p := by
  unfold pI
  rw [decide_eq_true_eq]
  constructor
  · rintro ⟨h1, h2⟩
    obtain ⟨j, hj, rfl⟩ := nI_of (Int32.not_lt.mpr h1)
    rw [nI_ltI hj (by omega)] at h2
    exact ⟨j, h2, rfl⟩
  · rintro ⟨p, hp, rfl⟩
    exact ⟨nI_pos' (by omega), nI_lt hp (by omega)⟩
theorem pI_in {P : Nat} (hP : P ≤ 1000) {x : Int32} : inI (nI 0) (nI P - nI 1) x = pI P x := by
  rw [Bool.eq_iff_iff, pI_nat hP]
  unfold inI
  rw [decide_eq_true_eq]
  constructor
  · rintro ⟨h1, h2⟩
    obtain ⟨j, hj, rfl⟩ := nI_of (Int32.not_lt.mpr h1)
    cases P with
    | zero =>
      exfalso
      rw [show nI 0 - nI 1 = (-1 : Int32) by decide] at h2
      have := Int32.le_trans h1 h2
      exact absurd this (by decide)
    | succ P =>
      rw [pk_sub (by omega), nI_leI hj (by omega)] at h2
      exact ⟨j, by omega, rfl⟩
  · rintro ⟨p, hp, rfl⟩
    refine ⟨nI_pos' (by omega), ?_⟩
    rw [pk_sub (by omega), nI_leI (by omega) (by omega)]
    omega
theorem pI_nI {P a : Nat} (h : a < P) (hP : P ≤ 1000) : pI P (nI a) = true := (pI_nat hP).mpr ⟨a, h, rfl⟩
/-- a bit, as it is read -/
theorem bit_r (w x : Int32) : w >>> (x &&& 31) &&& nI 1 = bit w x := rfl
/-- the reference's numbers of what is so, and a Life's rows -/
def LSb (s : Nat → Int32) (l : Nat → Nat → Int32) : Prop := s 132 = l 10 0 ∧ s 134 = l 11 0 ∧ s 135 = l 12 0 ∧ s 136 = l 13 0 ∧ (∀ p, p < 8 → s (137 + p) = l 1 p) ∧ (∀ p, p < 8 → s (145 + p) = l 2 p) ∧ (∀ p, p < 8 → s (153 + p) = b01 (bit (l 9 0) (nI p) = 1)) ∧ (∀ p, p < 8 → s (161 + p) = l 3 p) ∧ (∀ p, p < 8 → s (169 + p) = l 4 p) ∧ (∀ i, i < 64 → s (177 + i) = l 5 i) ∧ (∀ i, i < 8 → s (241 + i) = l 6 i) ∧ (∀ i, i < 8 → s (249 + i) = l 7 i)
def LSx (s : Nat → Int32) (l : Nat → Nat → Int32) : Prop := LSb s l ∧ s 133 = rsum (l 3) 0 8 0
/-- the reference's numbers of a TOWN, and a Charter's rows: P PERSONS, S STORIES -/
def KS (s : Nat → Int32) (k : Nat → Nat → Int32) (P S : Nat) : Prop := P ≤ 8 ∧ S ≤ 8 ∧ k 7 0 = nI P ∧ k 8 0 = nI S ∧ s 0 = nI P ∧ s 1 = nI S ∧ s 2 = k 11 0 ∧ s 3 = k 12 0 ∧ (∀ p, p < P → s (12 + p) = k 1 p) ∧ (∀ p, p < P → s (20 + p) = k 2 p) ∧ (∀ p, p < 8 → s (28 + p) = b01 (bit (k 9 0) (nI p) = 1)) ∧ (∀ p, p < 8 → s (36 + p) = b01 (bit (k 10 0) (nI p) = 1)) ∧ (∀ i, i < S → s (44 + i) = k 4 i) ∧ (∀ i, i < S → s (52 + i) = k 5 i) ∧ (∀ i, i < S → s (60 + i) = k 6 i)
/-- what holds of every TOWN: numbers in their bounds -/
def CI (k : Nat → Nat → Int32) (P S : Nat) : Prop := (∃ g, g ≤ 9 ∧ k 11 0 = nI g) ∧ (∃ g, 1 ≤ g ∧ g ≤ 99 ∧ k 12 0 = nI g) ∧ (∀ p, p < P → ∃ g, g ≤ 24 ∧ k 1 p = nI g) ∧ (∀ p, p < P → ∃ g, g ≤ 9 ∧ k 2 p = nI g) ∧ (∀ i, i < S → ∃ g, g ≤ 99 ∧ k 5 i = nI g) ∧ (∀ i, i < S → ∃ g, g ≤ 9 ∧ k 6 i = nI g) ∧ (∀ i, i < S → ∃ g, g < P ∧ k 4 i = nI g)
theorem LSb.nt {s : Nat → Int32} {l : Nat → Nat → Int32} (h : LSb s l) {a b : Nat} (ha : a < 8) (hb : b < 8) : s (177 + 8 * a + b) = l 5 (a * 8 + b) := by
  have := h.2.2.2.2.2.2.2.2.2.1 (a * 8 + b) (by omega)
  rw [← this]
  congr 1
  omega
theorem isIn_eq {v lo hi : Int32} : aw ET G d 195 0 [some (.int v), some (.int lo), some (.int hi)] [] n sl M Q = Q [.int (b01 (inI lo hi v = true))] n sl M := by
  unfold inI
  rcases lt_or v lo with ⟨h1, g1⟩ | ⟨h1, g1⟩ <;> rcases lt_or hi v with ⟨h2, g2⟩ | ⟨h2, g2⟩ <;> simp [w195_0, w195_1, w195_2, w195_5, w195_6, w195_7, w195_10, w195_11, w195_14, w195_15, ow195, rt195, in195, aw_st, ai_cls, ai_len, ai_p, ai_sw, ai_m, ai_c, aw_go, ai_at, ai_isI, ai_isJ, ai_isA, ai_ld, ai_1i, ai_2i, ai_2l, ai_cn, ai_j, ai_set, ai_set2, ai_nl, ai_rs, ai_this, ai_ar, ai_en, ai_sm, Value.category, hk0, hk1, ai_ft, fi0, fi1, fi2, fi3, h1, g1, h2, g2, b01]
theorem bitOf_eq {w x : Int32} : aw ET G d 227 0 [some (.int w), some (.int x)] [] n sl M Q = Q [.int (b01 (bit w x = 1))] n sl M := by
  simp [w227_0, w227_1, w227_2, w227_3, w227_4, w227_5, w227_6, w227_9, w227_10, w227_13, w227_14, ow227, rt227, in227, aw_st, ai_cls, ai_len, ai_p, ai_sw, ai_m, ai_c, aw_go, ai_at, ai_isI, ai_isJ, ai_isA, ai_ld, ai_1i, ai_2i, ai_2l, ai_cn, ai_j, ai_set, ai_set2, ai_nl, ai_rs, ai_this, ai_ar, ai_en, ai_sm, Value.category, hk0, hk1, ai_ft, fi0, fi1, fi2, fi3, b01, bit]
  split <;> simp_all
theorem lesser_eq {x y : Int32} : aw ET G d 224 0 [some (.int x), some (.int y)] [] n sl M Q = Q [.int (if x < y then x else y)] n sl M := by
  rcases lt_or x y with ⟨h1, g1⟩ | ⟨h1, g1⟩ <;> simp [w224_0, w224_1, w224_2, w224_5, w224_6, w224_9, w224_10, ow224, rt224, in224, aw_st, ai_cls, ai_len, ai_p, ai_sw, ai_m, ai_c, aw_go, ai_at, ai_isI, ai_isJ, ai_isA, ai_ld, ai_1i, ai_2i, ai_2l, ai_cn, ai_j, ai_set, ai_set2, ai_nl, ai_rs, ai_this, ai_ar, ai_en, ai_sm, Value.category, hk0, hk1, ai_ft, fi0, fi1, fi2, fi3, h1, g1]
theorem octet_eq {q : Nat} (hq : q < 940) : aw ET G d 257 0 [some (.ref 199), some (.int (nI q))] [] 231 sl (mem X Y) Q = Q [.int (X 200 q &&& 255)] 231 sl (mem X Y) := by
  simp (disch := omega) [w257_0, x257_1, w257_4, w257_5, w257_6, w257_9, w257_10, rt257, aw_st, ai_cls, ai_len, ai_p, ai_sw, ai_m, ai_c, ai_at, ai_isI, ai_isJ, ai_isA, ai_ld, ai_1i, ai_2i, ai_2l, ai_cn, ai_j, ai_set, ai_set2, ai_nl, ai_rs, ai_sm, Value.category, hk0, hk1, lits, litb, litm, litm2, or_n0, bit_r, fi0, fi1, fi2, fi3, nI_add, pk_mul, nI_leI, nI_ltI, nI_eq, pk_sub, ib_nI, nI_clamp, va_up_self, va_up_ne, va_up_up, va_up_comm, pk_us, pk_un, upd_up, updL_up, pk_uLs, pk_uLn, b01_1, b01_0, b01_1s, b01_0s, or_b, mm200, mu200, mm201, mu201, mm202, mu202, mm203, mu203, mm204, mu204, mm205, mu205, mm206, mu206, mm207, mu207, mm208, mu208, mm209, mu209, mm210, mu210, mm211, mu211, mm212, mu212, mm213, mu213, mm214, mu214, mm215, mu215, mm216, mu216, mm217, mu217, mm218, mu218, mm219, mu219, mm220, mu220, mm221, mu221, mm222, mu222, mm223, mu223, mm224, mu224, mm225, mu225, mm226, mu226, mm227, mu227, mm228, mu228, mm229, mu229, mm230, mu230]
theorem isPerson_eq {P : Nat} (hP : P ≤ 8) (h : X 201 0 = nI P) {x : Int32} : aw ET G (d + 1) 201 0 [some (.ref 199), some (.int x)] [] 231 sl (mem X Y) Q = Q [.int (b01 (pI P x = true))] 231 sl (mem X Y) := by
  simp (disch := omega) [w201_0, w201_1, w201_2, x201_3, w201_6, w201_7, w201_8, w201_9, x201_10, w201_13, rt201, aw_st, ai_cls, ai_len, ai_p, ai_sw, ai_m, ai_c, ai_at, ai_isI, ai_isJ, ai_isA, ai_ld, ai_1i, ai_2i, ai_2l, ai_cn, ai_j, ai_set, ai_set2, ai_nl, ai_rs, ai_sm, Value.category, hk0, hk1, lits, litb, litm, litm2, or_n0, bit_r, fi0, fi1, fi2, fi3, nI_add, pk_mul, nI_leI, nI_ltI, nI_eq, pk_sub, ib_nI, nI_clamp, va_up_self, va_up_ne, va_up_up, va_up_comm, pk_us, pk_un, upd_up, updL_up, pk_uLs, pk_uLn, b01_1, b01_0, b01_1s, b01_0s, or_b, mm200, mu200, mm201, mu201, mm202, mu202, mm203, mu203, mm204, mu204, mm205, mu205, mm206, mu206, mm207, mu207, mm208, mu208, mm209, mu209, mm210, mu210, mm211, mu211, mm212, mu212, mm213, mu213, mm214, mu214, mm215, mu215, mm216, mu216, mm217, mu217, mm218, mu218, mm219, mu219, mm220, mu220, mm221, mu221, mm222, mu222, mm223, mu223, mm224, mu224, mm225, mu225, mm226, mu226, mm227, mu227, mm228, mu228, mm229, mu229, mm230, mu230, h, isIn_eq, pI_in]
theorem isStory_eq {P : Nat} (hP : P ≤ 8) (h : X 201 1 = nI P) {x : Int32} : aw ET G (d + 1) 207 0 [some (.ref 199), some (.int x)] [] 231 sl (mem X Y) Q = Q [.int (b01 (pI P x = true))] 231 sl (mem X Y) := by
  simp (disch := omega) [w207_0, w207_1, w207_2, x207_3, w207_6, w207_7, w207_8, w207_9, x207_10, w207_13, rt207, aw_st, ai_cls, ai_len, ai_p, ai_sw, ai_m, ai_c, ai_at, ai_isI, ai_isJ, ai_isA, ai_ld, ai_1i, ai_2i, ai_2l, ai_cn, ai_j, ai_set, ai_set2, ai_nl, ai_rs, ai_sm, Value.category, hk0, hk1, lits, litb, litm, litm2, or_n0, bit_r, fi0, fi1, fi2, fi3, nI_add, pk_mul, nI_leI, nI_ltI, nI_eq, pk_sub, ib_nI, nI_clamp, va_up_self, va_up_ne, va_up_up, va_up_comm, pk_us, pk_un, upd_up, updL_up, pk_uLs, pk_uLn, b01_1, b01_0, b01_1s, b01_0s, or_b, mm200, mu200, mm201, mu201, mm202, mu202, mm203, mu203, mm204, mu204, mm205, mu205, mm206, mu206, mm207, mu207, mm208, mu208, mm209, mu209, mm210, mu210, mm211, mu211, mm212, mu212, mm213, mu213, mm214, mu214, mm215, mu215, mm216, mu216, mm217, mu217, mm218, mu218, mm219, mu219, mm220, mu220, mm221, mu221, mm222, mu222, mm223, mu223, mm224, mu224, mm225, mu225, mm226, mu226, mm227, mu227, mm228, mu228, mm229, mu229, mm230, mu230, h, isIn_eq, pI_in]
set_option maxHeartbeats 4000000 in
theorem debtOf_loop {l : Nat → Nat → Int32} (h : LSb (X 201) l) {a : Nat} (ha : a < 8) : ∀ (r q : Nat) (acc : Int32), q + r = 8 → aw ET G d 203 4 [some (.ref 199), some (.int (nI a)), some (.int acc), some (.int (nI q))] [] 231 sl (mem X Y) Q = Q [.int (rsum (l 5) (a * 8 + q) r acc)] 231 sl (mem X Y) := by
  intro r
  induction r with
  | zero =>
    intro q acc hq
    simp (disch := omega) [w203_0, w203_1, w203_2, w203_3, w203_4, w203_5, w203_7, w203_10, w203_11, x203_12, w203_15, w203_18, w203_20, w203_21, w203_22, w203_23, w203_24, w203_25, w203_26, w203_27, w203_28, w203_31, w203_34, w203_35, rt203, aw_st, ai_cls, ai_len, ai_p, ai_sw, ai_m, ai_c, ai_at, ai_isI, ai_isJ, ai_isA, ai_ld, ai_1i, ai_2i, ai_2l, ai_cn, ai_j, ai_set, ai_set2, ai_nl, ai_rs, ai_sm, Value.category, hk0, hk1, lits, litb, litm, litm2, or_n0, bit_r, fi0, fi1, fi2, fi3, nI_add, pk_mul, nI_leI, nI_ltI, nI_eq, pk_sub, ib_nI, nI_clamp, va_up_self, va_up_ne, va_up_up, va_up_comm, pk_us, pk_un, upd_up, updL_up, pk_uLs, pk_uLn, b01_1, b01_0, b01_1s, b01_0s, or_b, mm200, mu200, mm201, mu201, mm202, mu202, mm203, mu203, mm204, mu204, mm205, mu205, mm206, mu206, mm207, mu207, mm208, mu208, mm209, mu209, mm210, mu210, mm211, mu211, mm212, mu212, mm213, mu213, mm214, mu214, mm215, mu215, mm216, mu216, mm217, mu217, mm218, mu218, mm219, mu219, mm220, mu220, mm221, mu221, mm222, mu222, mm223, mu223, mm224, mu224, mm225, mu225, mm226, mu226, mm227, mu227, mm228, mu228, mm229, mu229, mm230, mu230, rsum, show 8 ≤ q by omega]
  | succ r ih =>
    intro q acc hq
    have e := h.nt ha (b := q) (by omega)
    rw [w203_4]
    simp (disch := omega) [w203_0, w203_1, w203_2, w203_3, w203_5, w203_7, w203_10, w203_11, x203_12, w203_15, w203_18, w203_20, w203_21, w203_22, w203_23, w203_24, w203_25, w203_26, w203_27, w203_28, w203_31, w203_34, w203_35, rt203, aw_st, ai_cls, ai_len, ai_p, ai_sw, ai_m, ai_c, ai_at, ai_isI, ai_isJ, ai_isA, ai_ld, ai_1i, ai_2i, ai_2l, ai_cn, ai_j, ai_set, ai_set2, ai_nl, ai_rs, ai_sm, Value.category, hk0, hk1, lits, litb, litm, litm2, or_n0, bit_r, fi0, fi1, fi2, fi3, nI_add, pk_mul, nI_leI, nI_ltI, nI_eq, pk_sub, ib_nI, nI_clamp, va_up_self, va_up_ne, va_up_up, va_up_comm, pk_us, pk_un, upd_up, updL_up, pk_uLs, pk_uLn, b01_1, b01_0, b01_1s, b01_0s, or_b, mm200, mu200, mm201, mu201, mm202, mu202, mm203, mu203, mm204, mu204, mm205, mu205, mm206, mu206, mm207, mu207, mm208, mu208, mm209, mu209, mm210, mu210, mm211, mu211, mm212, mu212, mm213, mu213, mm214, mu214, mm215, mu215, mm216, mu216, mm217, mu217, mm218, mu218, mm219, mu219, mm220, mu220, mm221, mu221, mm222, mu222, mm223, mu223, mm224, mu224, mm225, mu225, mm226, mu226, mm227, mu227, mm228, mu228, mm229, mu229, mm230, mu230, show ¬ 8 ≤ q by omega, e, ih (q + 1) (acc + l 5 (a * 8 + q)) (by omega), rsum, show a * 8 + (q + 1) = a * 8 + q + 1 from rfl]
theorem debtOf_eq {l : Nat → Nat → Int32} (h : LSb (X 201) l) {a : Nat} (ha : a < 8) : aw ET G d 203 0 [some (.ref 199), some (.int (nI a)), none, none] [] 231 sl (mem X Y) Q = Q [.int (rsum (l 5) (a * 8) 8 0)] 231 sl (mem X Y) := by
  have := debtOf_loop (G := G) (d := d) (sl := sl) (Q := Q) (Y := Y) h ha 8 0 0 rfl
  simp [w203_0, w203_1, w203_2, w203_3, w203_5, w203_7, w203_10, w203_11, x203_12, w203_15, w203_18, w203_20, w203_21, w203_22, w203_23, w203_24, w203_25, w203_26, w203_27, w203_28, w203_31, w203_34, w203_35, rt203, aw_st, ai_cls, ai_len, ai_p, ai_sw, ai_m, ai_c, ai_at, ai_isI, ai_isJ, ai_isA, ai_ld, ai_1i, ai_2i, ai_2l, ai_cn, ai_j, ai_set, ai_set2, ai_nl, ai_rs, ai_sm, Value.category, hk0, hk1, lits, litb, litm, litm2, or_n0, bit_r, fi0, fi1, fi2, fi3, nI_add, pk_mul, nI_leI, nI_ltI, nI_eq, pk_sub, ib_nI, nI_clamp, va_up_self, va_up_ne, va_up_up, va_up_comm, pk_us, pk_un, upd_up, updL_up, pk_uLs, pk_uLn, b01_1, b01_0, b01_1s, b01_0s, or_b, mm200, mu200, mm201, mu201, mm202, mu202, mm203, mu203, mm204, mu204, mm205, mu205, mm206, mu206, mm207, mu207, mm208, mu208, mm209, mu209, mm210, mu210, mm211, mu211, mm212, mu212, mm213, mu213, mm214, mu214, mm215, mu215, mm216, mu216, mm217, mu217, mm218, mu218, mm219, mu219, mm220, mu220, mm221, mu221, mm222, mu222, mm223, mu223, mm224, mu224, mm225, mu225, mm226, mu226, mm227, mu227, mm228, mu228, mm229, mu229, mm230, mu230] at this ⊢
  exact this
end RFA
