/-! TOKENS: what the reference hands on -/
section RTM
variable {G : ai_G} {d sl : Nat} {Q : List Value → Nat → Nat → ai_M → Prop} {Y : mY} {X : mX} {c : TC} {i P S : Nat} {F : Nat → Int32} {W : Nat → Int64} {nm : Nat → List Nat}
/-- the words that are no NAMES, as the reference has them -/
def kl (j : Nat) : Int64 := lN (v8 (kws.getD j []))
theorem klv : (lN 123581014175598 : Int64) = kl 0 ∧ (lN 1870095731 : Int64) = kl 1 ∧ (lN 495874699897 : Int64) = kl 2 ∧ (lN 1718773093 : Int64) = kl 3 ∧ (lN 439721161573 : Int64) = kl 4 ∧ (lN 1734960756 : Int64) = kl 5 ∧ (lN 1920297326 : Int64) = kl 6 ∧ (lN 448377483891 : Int64) = kl 7 ∧ (lN 499917810803 : Int64) = kl 8 ∧ (lN 6578553 : Int64) = kl 9 ∧ (lN 126943972911973 : Int64) = kl 10 ∧ (lN 28530 : Int64) = kl 11 ∧ (lN 6385252 : Int64) = kl 12 ∧ (lN 7237492 : Int64) = kl 13 ∧ (lN 125848605582692 : Int64) = kl 14 ∧ (lN 461414299507 : Int64) = kl 15 ∧ (lN 1852138852 : Int64) = kl 16 ∧ (lN 6644082 : Int64) = kl 17 ∧ (lN 1684365940 : Int64) = kl 18 ∧ (lN 109342978500980 : Int64) = kl 19 ∧ (lN 482854658917 : Int64) = kl 20 := by decide +kernel
theorem bad_eq {x : Int32} : aw ET G d 190 0 [some (.ref 199), some (.int x)] [] 231 sl (mem (va_up X 199 F) Y) Q = Q [.int (nI 0)] 231 sl (mem (va_up X 199 (upd (upd F 15 x) 16 (F 12))) Y) := by
  simp (disch := omega) [w190_0, w190_1, x190_2, w190_5, w190_6, x190_7, x190_10, w190_13, w190_14, rt190, aw_st, ai_cls, ai_len, ai_p, ai_sw, ai_m, ai_c, ai_at, ai_isI, ai_isJ, ai_isA, ai_ld, ai_1i, ai_2i, ai_2l, ai_cn, ai_j, ai_set, ai_set2, ai_nl, ai_rs, ai_sm, Value.category, hk0, hk1, lits, litb, litm, litm2, List.getElem?_cons_zero, List.getElem?_cons_succ, or_n0, bit_r, fi0, fi1, fi2, fi3, nI_toInt, nI_add, pk_mul, nI_leI, nI_ltI, nI_eq, pk_sub, ib_nI, nI_clamp, va_up_self, va_up_ne, va_up_up, va_up_comm, pk_us, pk_un, upd_up, updL_up, pk_uLs, pk_uLn, b01_1, b01_0, b01_1s, b01_0s, or_b, mm200, mu200, mm201, mu201, mm202, mu202, mm203, mu203, mm204, mu204, mm205, mu205, mm206, mu206, mm207, mu207, mm208, mu208, mm209, mu209, mm210, mu210, mm211, mu211, mm212, mu212, mm213, mu213, mm214, mu214, mm215, mu215, mm216, mu216, mm217, mu217, mm218, mu218, mm219, mu219, mm220, mu220, mm221, mu221, mm222, mu222, mm223, mu223, mm224, mu224, mm225, mu225, mm226, mu226, mm227, mu227, mm228, mu228, mm229, mu229, mm230, mu230]
theorem v8_lN {w w' : List Nat} (h : WD w) (h' : WD w') : (lN (v8 w) = lN (v8 w')) = (w = w') := by
  have b := v8_lt h
  have b' := v8_lt h'
  rw [propext (pk_lEQ (by omega) (by omega))]
  exact propext ⟨fun e => v8_inj h h' e, fun e => by rw [e]⟩
theorem cK_lt (ok : OKr c X) (hi : i ≤ c.2.1) : cK c i < 256 := by
  have h1 := ok.1
  have h2 := ok.2.1
  unfold cK
  have hp := skp_le (t := c.1) hi
  unfold tK
  split
  · split <;> omega
  · rename_i e
    split
    · unfold rK; split
      · omega
      · split <;> omega
    · split
      · exact (h1 _ (by omega)).1
      · omega
theorem rkN_1 {k : Nat} : rkN k = 1 ↔ k = 2 := by
  unfold rkN
  constructor
  · intro h; (repeat' split at h) <;> omega
  · intro h; subst h; rfl
theorem rkN_2 {k : Nat} : rkN k = 2 ↔ k = 3 := by
  unfold rkN
  constructor
  · intro h; (repeat' split at h) <;> omega
  · intro h; subst h; rfl
theorem rkN_0 {k : Nat} : rkN k = 0 ↔ k = 0 := by
  unfold rkN
  constructor
  · intro h; (repeat' split at h) <;> omega
  · intro h; subst h; rfl
theorem rkN_3 {k : Nat} : rkN k = 3 ↔ 4 ≤ k := by
  unfold rkN
  constructor
  · intro h; (repeat' split at h) <;> omega
  · intro h; rw [if_neg (by omega), if_neg (by omega), if_neg (by omega), if_neg (by omega)]
theorem rkN_le {k : Nat} : rkN k ≤ 4 := by
  unfold rkN
  (repeat' split) <;> omega
theorem cW_wd (h : cK c i = 2) (ok : OKr c X) (hi : i ≤ c.2.1) : WD (cW c i) := tW_wd h hi (fun j hj => (ok.1 j (by have := ok.2.1; omega)).1)
theorem cY_at (h : cK c i = 2) {j : Nat} (hj : j < 21) : (cY c i = j) = (cW c i = kws.getD j []) := by
  have h' : tK c.1 c.2.1 c.2.2 i = 2 := h
  unfold cY tY
  rw [if_pos h']
  exact propext (kN_at hj)
theorem kws_at {j : Nat} (hj : j < 21) : WD (kws.getD j []) := by
  rw [getD_at kws (show j < kws.length from hj)]
  exact kws_wd _ (List.getElem_mem _)
set_option maxHeartbeats 4000000 in
theorem isW_eq {j : Nat} (hj : j < 21) (h : RDR c i F W) (ok : OKr c X) (hi : i ≤ c.2.1) : aw ET G d 189 0 [some (.ref 199), some (.long (kl j)), none] [] 231 sl (mem (va_up X 199 F) (va_up Y 199 W)) Q = Q [.int (b01 (cY c i = j))] 231 sl (mem (va_up X 199 F) (va_up Y 199 W)) := by
  obtain ⟨f3, f5, f4, f11, f12, w17, -, -⟩ := h
  have hle := rkN_le (k := cK c i)
  by_cases e : cK c i = 2
  · have hw := w17 e
    have hv := v8_lN (cW_wd e ok hi) (kws_at hj)
    have hrk : rkN (cK c i) = 1 := rkN_1.mpr e
    rw [hrk] at f11
    have hy := cY_at e hj
    unfold kl
    have e4 : (lN (v8 (cW c i)) = lN (v8 (kws.getD j []))) = (cY c i = j) := by rw [hv, hy]
    generalize lN (v8 (kws.getD j [])) = v at *
    by_cases e3 : cY c i = j
    · have e5 : lN (v8 (cW c i)) = v := by rw [e4]; exact e3
      rw [e5] at hw
      simp (disch := omega) [w189_0, x189_1, w189_4, w189_5, w189_8, x189_9, w189_12, w189_13, w189_14, w189_17, w189_18, w189_21, w189_22, rt189, aw_st, ai_cls, ai_len, ai_p, ai_sw, ai_m, ai_c, ai_at, ai_isI, ai_isJ, ai_isA, ai_ld, ai_1i, ai_2i, ai_2l, ai_cn, ai_j, ai_set, ai_set2, ai_nl, ai_rs, ai_sm, Value.category, hk0, hk1, lits, litb, litm, litm2, List.getElem?_cons_zero, List.getElem?_cons_succ, or_n0, bit_r, fi0, fi1, fi2, fi3, nI_toInt, nI_add, pk_mul, nI_leI, nI_ltI, nI_eq, pk_sub, ib_nI, nI_clamp, va_up_self, va_up_ne, va_up_up, va_up_comm, pk_us, pk_un, upd_up, updL_up, pk_uLs, pk_uLn, b01_1, b01_0, b01_1s, b01_0s, or_b, mm200, mu200, mm201, mu201, mm202, mu202, mm203, mu203, mm204, mu204, mm205, mu205, mm206, mu206, mm207, mu207, mm208, mu208, mm209, mu209, mm210, mu210, mm211, mu211, mm212, mu212, mm213, mu213, mm214, mu214, mm215, mu215, mm216, mu216, mm217, mu217, mm218, mu218, mm219, mu219, mm220, mu220, mm221, mu221, mm222, mu222, mm223, mu223, mm224, mu224, mm225, mu225, mm226, mu226, mm227, mu227, mm228, mu228, mm229, mu229, mm230, mu230, f11, hw, lgc_eq, e3, b01]
    · have e5 : ¬ lN (v8 (cW c i)) = v := by rw [e4]; exact e3
      simp (disch := omega) [w189_0, x189_1, w189_4, w189_5, w189_8, x189_9, w189_12, w189_13, w189_14, w189_17, w189_18, w189_21, w189_22, rt189, aw_st, ai_cls, ai_len, ai_p, ai_sw, ai_m, ai_c, ai_at, ai_isI, ai_isJ, ai_isA, ai_ld, ai_1i, ai_2i, ai_2l, ai_cn, ai_j, ai_set, ai_set2, ai_nl, ai_rs, ai_sm, Value.category, hk0, hk1, lits, litb, litm, litm2, List.getElem?_cons_zero, List.getElem?_cons_succ, or_n0, bit_r, fi0, fi1, fi2, fi3, nI_toInt, nI_add, pk_mul, nI_leI, nI_ltI, nI_eq, pk_sub, ib_nI, nI_clamp, va_up_self, va_up_ne, va_up_up, va_up_comm, pk_us, pk_un, upd_up, updL_up, pk_uLs, pk_uLn, b01_1, b01_0, b01_1s, b01_0s, or_b, mm200, mu200, mm201, mu201, mm202, mu202, mm203, mu203, mm204, mu204, mm205, mu205, mm206, mu206, mm207, mu207, mm208, mu208, mm209, mu209, mm210, mu210, mm211, mu211, mm212, mu212, mm213, mu213, mm214, mu214, mm215, mu215, mm216, mu216, mm217, mu217, mm218, mu218, mm219, mu219, mm220, mu220, mm221, mu221, mm222, mu222, mm223, mu223, mm224, mu224, mm225, mu225, mm226, mu226, mm227, mu227, mm228, mu228, mm229, mu229, mm230, mu230, f11, hw, lgc_eq, e5, e3, b01]
  · have hrk : ¬ rkN (cK c i) = 1 := fun q => e (rkN_1.mp q)
    have e3 : ¬ cY c i = j := fun q => e (tY_lt (by show cY c i < 21; omega))
    simp (disch := omega) [w189_0, x189_1, w189_4, w189_5, w189_8, x189_9, w189_12, w189_13, w189_14, w189_17, w189_18, w189_21, w189_22, rt189, aw_st, ai_cls, ai_len, ai_p, ai_sw, ai_m, ai_c, ai_at, ai_isI, ai_isJ, ai_isA, ai_ld, ai_1i, ai_2i, ai_2l, ai_cn, ai_j, ai_set, ai_set2, ai_nl, ai_rs, ai_sm, Value.category, hk0, hk1, lits, litb, litm, litm2, List.getElem?_cons_zero, List.getElem?_cons_succ, or_n0, bit_r, fi0, fi1, fi2, fi3, nI_toInt, nI_add, pk_mul, nI_leI, nI_ltI, nI_eq, pk_sub, ib_nI, nI_clamp, va_up_self, va_up_ne, va_up_up, va_up_comm, pk_us, pk_un, upd_up, updL_up, pk_uLs, pk_uLn, b01_1, b01_0, b01_1s, b01_0s, or_b, mm200, mu200, mm201, mu201, mm202, mu202, mm203, mu203, mm204, mu204, mm205, mu205, mm206, mu206, mm207, mu207, mm208, mu208, mm209, mu209, mm210, mu210, mm211, mu211, mm212, mu212, mm213, mu213, mm214, mu214, mm215, mu215, mm216, mu216, mm217, mu217, mm218, mu218, mm219, mu219, mm220, mu220, mm221, mu221, mm222, mu222, mm223, mu223, mm224, mu224, mm225, mu225, mm226, mu226, mm227, mu227, mm228, mu228, mm229, mu229, mm230, mu230, f11, hrk, e3, b01]
end RTM
