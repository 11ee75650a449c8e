/-! PRICES: the class, III -/
section PRE
variable {G : ai_G} {d n sl : Nat} {Q : List Value → Nat → Nat → ai_M → Prop} {l k : Nat → Nat → Int32} {P S : Nat} {Y : mY} {X : mX}
def prX (X : mX) (pr w hr : Nat → Int32) : mX := va_up (va_up (va_up X 39 pr) 40 w) 41 hr
theorem prX_ch (pr w hr w2 hr2 : Nat → Int32) : va_up (va_up (prX X pr w hr) 40 w2) 41 hr2 = prX X pr w2 hr2 := by
  funext j
  simp only [prX, va_up]
  by_cases h1 : j = 41 <;> by_cases h2 : j = 40 <;> by_cases h3 : j = 39 <;> simp [h1, h2, h3]
theorem prX_ra (pr w hr pr2 : Nat → Int32) : va_up (prX X pr w hr) 39 pr2 = prX X pr2 w hr := by
  funext j
  simp only [prX, va_up]
  by_cases h1 : j = 41
  · simp [h1]
  · by_cases h2 : j = 40
    · simp [h2]
    · by_cases h3 : j = 39 <;> simp [h1, h2, h3]
set_option maxHeartbeats 4000000 in
theorem settle_loop {step : Int32} (hP : P ≤ 8) (hm : X 38 3 = nI P) (he : ∀ q, q < P → X 49 q = k 1 q) (hn : ∀ p, p < P → X 62 p = l 1 p) : ∀ (r c : Nat) (pr spr w hr : Nat → Int32), r + c = 499 → (∀ q, q < P → pr q = spr q) → (∀ p2 w2 h2, (∀ q, q < P → p2 q = (priR l k P step r spr c).1 q) → (∀ q, q < P → w2 q = wantP l k (priR l k P step r spr c).2.1 P q) → Q [.int (nI (priR l k P step r spr c).2.2)] 231 sl (mem (prX X p2 w2 h2) Y)) → aw ET G (d + 2) 106 41 [some (.ref 38), some (.ref 61), some (.int step), some (.int (nI (c + 1)))] [] 231 sl (mem (prX X pr w hr) Y) Q := by
  intro r
  induction r with
  | zero =>
    intro c pr spr w hr hc hp hQ
    have : c = 499 := by omega
    subst this
    simp (disch := omega) [w106_41, w106_42, w106_45, w106_73, w106_74, x106_75_38, aw_st, ai_cls, ai_len, ai_p, ai_sw, ai_m, ai_c, ai_at, ai_isI, ai_isJ, ai_isA, ai_ld, ai_1i, ai_2i, ai_2l, ai_cn, ai_j, ai_set, ai_set2, ai_nl, ai_rs, ai_sm, Value.category, hk0, hk1, lits, litb, litm, litm2, List.getElem?_cons_zero, List.getElem?_cons_succ, or_n0, bit_r, fi0, fi1, fi2, fi3, nI_toInt, nI_add, pk_mul, nI_leI, nI_ltI, nI_eq, pk_sub, ib_nI, nI_clamp, va_up_self, va_up_ne, va_up_up, va_up_comm, pk_us, pk_un, upd_up, updL_up, pk_uLs, pk_uLn, b01_1, b01_0, b01_1s, b01_0s, or_b]
    refine choose_wp (X := prX X pr w hr) (pr := spr) (l := l) (k := k) hP hm hp he hn ?_
    intro w' hr' h1 h2
    rw [prX_ch]
    simp (disch := omega) [w106_78, w106_79, x106_80_61, w106_83, x106_84_38, aw_st, ai_cls, ai_len, ai_p, ai_sw, ai_m, ai_c, ai_at, ai_isI, ai_isJ, ai_isA, ai_ld, ai_1i, ai_2i, ai_2l, ai_cn, ai_j, ai_set, ai_set2, ai_nl, ai_rs, ai_sm, Value.category, hk0, hk1, lits, litb, litm, litm2, List.getElem?_cons_zero, List.getElem?_cons_succ, or_n0, bit_r, fi0, fi1, fi2, fi3, nI_toInt, nI_add, pk_mul, nI_leI, nI_ltI, nI_eq, pk_sub, ib_nI, nI_clamp, va_up_self, va_up_ne, va_up_up, va_up_comm, pk_us, pk_un, upd_up, updL_up, pk_uLs, pk_uLn, b01_1, b01_0, b01_1s, b01_0s, or_b]
    refine raise_wp (X := prX X pr w' hr') (pr := spr) (l := l) (k := k) hP hm hp he h2 ?_
    intro p2 h3
    rw [prX_ra]
    simp (disch := omega) [w106_87, w106_88, w106_91, rt106, aw_st, ai_cls, ai_len, ai_p, ai_sw, ai_m, ai_c, ai_at, ai_isI, ai_isJ, ai_isA, ai_ld, ai_1i, ai_2i, ai_2l, ai_cn, ai_j, ai_set, ai_set2, ai_nl, ai_rs, ai_sm, Value.category, hk0, hk1, lits, litb, litm, litm2, List.getElem?_cons_zero, List.getElem?_cons_succ, or_n0, bit_r, fi0, fi1, fi2, fi3, nI_toInt, nI_add, pk_mul, nI_leI, nI_ltI, nI_eq, pk_sub, ib_nI, nI_clamp, va_up_self, va_up_ne, va_up_up, va_up_comm, pk_us, pk_un, upd_up, updL_up, pk_uLs, pk_uLn, b01_1, b01_0, b01_1s, b01_0s, or_b]
    exact hQ p2 w' hr' h3 h1
  | succ r ih =>
    intro c pr spr w hr hc hp hQ
    rw [w106_41]
    simp (disch := omega) [w106_42, w106_45, w106_48, w106_49, x106_50_38, aw_st, ai_cls, ai_len, ai_p, ai_sw, ai_m, ai_c, ai_at, ai_isI, ai_isJ, ai_isA, ai_ld, ai_1i, ai_2i, ai_2l, ai_cn, ai_j, ai_set, ai_set2, ai_nl, ai_rs, ai_sm, Value.category, hk0, hk1, lits, litb, litm, litm2, List.getElem?_cons_zero, List.getElem?_cons_succ, or_n0, bit_r, fi0, fi1, fi2, fi3, nI_toInt, nI_add, pk_mul, nI_leI, nI_ltI, nI_eq, pk_sub, ib_nI, nI_clamp, va_up_self, va_up_ne, va_up_up, va_up_comm, pk_us, pk_un, upd_up, updL_up, pk_uLs, pk_uLn, b01_1, b01_0, b01_1s, b01_0s, or_b, show ¬ 500 ≤ c + 1 by omega]
    refine choose_wp (X := prX X pr w hr) (pr := spr) (l := l) (k := k) hP hm hp he hn ?_
    intro w' hr' h1 h2
    rw [prX_ch]
    simp (disch := omega) [w106_53, w106_54, x106_55_61, w106_58, x106_59_38, aw_st, ai_cls, ai_len, ai_p, ai_sw, ai_m, ai_c, ai_at, ai_isI, ai_isJ, ai_isA, ai_ld, ai_1i, ai_2i, ai_2l, ai_cn, ai_j, ai_set, ai_set2, ai_nl, ai_rs, ai_sm, Value.category, hk0, hk1, lits, litb, litm, litm2, List.getElem?_cons_zero, List.getElem?_cons_succ, or_n0, bit_r, fi0, fi1, fi2, fi3, nI_toInt, nI_add, pk_mul, nI_leI, nI_ltI, nI_eq, pk_sub, ib_nI, nI_clamp, va_up_self, va_up_ne, va_up_up, va_up_comm, pk_us, pk_un, upd_up, updL_up, pk_uLs, pk_uLn, b01_1, b01_0, b01_1s, b01_0s, or_b]
    refine raise_wp (X := prX X pr w' hr') (pr := spr) (l := l) (k := k) hP hm hp he h2 ?_
    intro p2 h3
    rw [prX_ra]
    cases hz : rzR l k P spr 0 P false
    · have e : priR l k P step (r + 1) spr c = (prN l k P step spr, spr, c + 1) := by unfold priR; rw [hz]; rfl
      rw [e] at hQ
      simp (disch := omega) [w106_62, w106_65, w106_66, rt106, aw_st, ai_cls, ai_len, ai_p, ai_sw, ai_m, ai_c, ai_at, ai_isI, ai_isJ, ai_isA, ai_ld, ai_1i, ai_2i, ai_2l, ai_cn, ai_j, ai_set, ai_set2, ai_nl, ai_rs, ai_sm, Value.category, hk0, hk1, lits, litb, litm, litm2, List.getElem?_cons_zero, List.getElem?_cons_succ, or_n0, bit_r, fi0, fi1, fi2, fi3, nI_toInt, nI_add, pk_mul, nI_leI, nI_ltI, nI_eq, pk_sub, ib_nI, nI_clamp, va_up_self, va_up_ne, va_up_up, va_up_comm, pk_us, pk_un, upd_up, updL_up, pk_uLs, pk_uLn, b01_1, b01_0, b01_1s, b01_0s, or_b, b01]
      exact hQ p2 w' hr' h3 h1
    · have e : priR l k P step (r + 1) spr c = priR l k P step r (prN l k P step spr) (c + 1) := by rw [priR.eq_2, hz]; rfl
      rw [e] at hQ
      simp (disch := omega) [w106_62, w106_67, w106_70, rt106, aw_st, ai_cls, ai_len, ai_p, ai_sw, ai_m, ai_c, ai_at, ai_isI, ai_isJ, ai_isA, ai_ld, ai_1i, ai_2i, ai_2l, ai_cn, ai_j, ai_set, ai_set2, ai_nl, ai_rs, ai_sm, Value.category, hk0, hk1, lits, litb, litm, litm2, List.getElem?_cons_zero, List.getElem?_cons_succ, or_n0, bit_r, fi0, fi1, fi2, fi3, nI_toInt, nI_add, pk_mul, nI_leI, nI_ltI, nI_eq, pk_sub, ib_nI, nI_clamp, va_up_self, va_up_ne, va_up_up, va_up_comm, pk_us, pk_un, upd_up, updL_up, pk_uLs, pk_uLn, b01_1, b01_0, b01_1s, b01_0s, or_b, b01]
      exact ih (c + 1) p2 _ w' hr' (by omega) h3 hQ
set_option maxHeartbeats 4000000 in
theorem settle_zero {step : Int32} : ∀ (r i : Nat) (pr w : Nat → Int32), i + r = 8 → (∀ q, q < i → pr q = 0) → (∀ pr' w', (∀ q, q < 8 → pr' q = 0) → aw ET G d 106 39 [some (.ref 38), some (.ref 61), some (.int step), some (.int (nI 8))] [] 231 sl (mem (va_up (va_up X 39 pr') 40 w') Y) Q) → aw ET G d 106 13 [some (.ref 38), some (.ref 61), some (.int step), some (.int (nI i))] [] 231 sl (mem (va_up (va_up X 39 pr) 40 w) Y) Q := by
  intro r
  induction r with
  | zero =>
    intro i pr w hi h0 hQ
    have : i = 8 := by omega
    subst this
    have := hQ pr w h0
    simp (disch := omega) [w106_13, w106_14, w106_16, aw_st, ai_cls, ai_len, ai_p, ai_sw, ai_m, ai_c, ai_at, ai_isI, ai_isJ, ai_isA, ai_ld, ai_1i, ai_2i, ai_2l, ai_cn, ai_j, ai_set, ai_set2, ai_nl, ai_rs, ai_sm, Value.category, hk0, hk1, lits, litb, litm, litm2, List.getElem?_cons_zero, List.getElem?_cons_succ, or_n0, bit_r, fi0, fi1, fi2, fi3, nI_toInt, nI_add, pk_mul, nI_leI, nI_ltI, nI_eq, pk_sub, ib_nI, nI_clamp, va_up_self, va_up_ne, va_up_up, va_up_comm, pk_us, pk_un, upd_up, updL_up, pk_uLs, pk_uLn, b01_1, b01_0, b01_1s, b01_0s, or_b]
    exact this
  | succ r ih =>
    intro i pr w hi h0 hQ
    rw [w106_13]
    simp (disch := omega) [w106_14, w106_16, w106_19, x106_20_38, w106_23, w106_24, w106_25, w106_26, x106_27_38, w106_30, w106_31, w106_32, w106_33, w106_36, aw_st, ai_cls, ai_len, ai_p, ai_sw, ai_m, ai_c, ai_at, ai_isI, ai_isJ, ai_isA, ai_ld, ai_1i, ai_2i, ai_2l, ai_cn, ai_j, ai_set, ai_set2, ai_nl, ai_rs, ai_sm, Value.category, hk0, hk1, lits, litb, litm, litm2, List.getElem?_cons_zero, List.getElem?_cons_succ, or_n0, bit_r, fi0, fi1, fi2, fi3, nI_toInt, nI_add, pk_mul, nI_leI, nI_ltI, nI_eq, pk_sub, ib_nI, nI_clamp, va_up_self, va_up_ne, va_up_up, va_up_comm, pk_us, pk_un, upd_up, updL_up, pk_uLs, pk_uLn, b01_1, b01_0, b01_1s, b01_0s, or_b, mm39, mu39, mm40, mu40, show ¬ 8 ≤ i by omega]
    refine ih (i + 1) _ _ (by omega) ?_ hQ
    intro q hq
    by_cases e : q = i
    · subst e; simp [upd]; rfl
    · rw [pk_un e]; exact h0 q (by omega)
theorem settle_wp {step : Int32} (hP : P ≤ 8) (hk : X 47 7 = nI P) (he : ∀ q, q < P → X 49 q = k 1 q) (hn : ∀ p, p < P → X 62 p = l 1 p) (hQ : ∀ p2 w2 h2, (∀ q, q < P → p2 q = (priR l k P step 499 (fun _ => 0) 0).1 q) → (∀ q, q < P → w2 q = wantP l k (priR l k P step 499 (fun _ => 0) 0).2.1 P q) → Q [.int (nI (priR l k P step 499 (fun _ => 0) 0).2.2)] 231 sl (mem (prX (va_up X 38 (upd (X 38) 3 (nI P))) p2 w2 h2) Y)) : aw ET G (d + 2) 106 0 [some (.ref 38), some (.ref 61), some (.int step), none] [] 231 sl (mem X Y) Q := by
  have hz := settle_zero (G := G) (d := d + 2) (sl := sl) (Q := Q) (Y := Y) (X := va_up X 38 (upd (X 38) 3 (nI P))) (step := step) 8 0 (X 39) (X 40) (by omega) (fun q hq => by omega) (fun pr' w' h0 => by
    have hl := settle_loop (G := G) (d := d) (sl := sl) (Q := Q) (Y := Y) (X := va_up X 38 (upd (X 38) 3 (nI P))) (step := step) (l := l) (k := k) hP (by simp [va_up, upd]) he hn 499 0 pr' (fun _ => 0) w' (X 41) (by omega) (fun q hq => h0 q (by omega)) hQ
    have e : prX (va_up X 38 (upd (X 38) 3 (nI P))) pr' w' (X 41) = va_up (va_up (va_up X 38 (upd (X 38) 3 (nI P))) 39 pr') 40 w' := by
      funext j
      simp only [prX, va_up]
      by_cases h1 : j = 41
      · subst h1; simp
      · simp [h1]
    rw [e] at hl
    simp (disch := omega) [w106_39, w106_40, aw_st, ai_cls, ai_len, ai_p, ai_sw, ai_m, ai_c, ai_at, ai_isI, ai_isJ, ai_isA, ai_ld, ai_1i, ai_2i, ai_2l, ai_cn, ai_j, ai_set, ai_set2, ai_nl, ai_rs, ai_sm, Value.category, hk0, hk1, lits, litb, litm, litm2, List.getElem?_cons_zero, List.getElem?_cons_succ, or_n0, bit_r, fi0, fi1, fi2, fi3, nI_toInt, nI_add, pk_mul, nI_leI, nI_ltI, nI_eq, pk_sub, ib_nI, nI_clamp, va_up_self, va_up_ne, va_up_up, va_up_comm, pk_us, pk_un, upd_up, updL_up, pk_uLs, pk_uLn, b01_1, b01_0, b01_1s, b01_0s, or_b]
    exact hl)
  have e : va_up (va_up (va_up X 38 (upd (X 38) 3 (nI P))) 39 (X 39)) 40 (X 40) = va_up X 38 (upd (X 38) 3 (nI P)) := by
    funext j
    simp only [va_up]
    by_cases h1 : j = 40
    · subst h1; simp
    · by_cases h2 : j = 39
      · subst h2; simp
      · simp [h1, h2]
  rw [e] at hz
  simp (disch := omega) [w106_0, w106_1, x106_2_61, x106_5_47, x106_8, w106_11, w106_12, aw_st, ai_cls, ai_len, ai_p, ai_sw, ai_m, ai_c, ai_at, ai_isI, ai_isJ, ai_isA, ai_ld, ai_1i, ai_2i, ai_2l, ai_cn, ai_j, ai_set, ai_set2, ai_nl, ai_rs, ai_sm, Value.category, hk0, hk1, lits, litb, litm, litm2, List.getElem?_cons_zero, List.getElem?_cons_succ, or_n0, bit_r, fi0, fi1, fi2, fi3, nI_toInt, nI_add, pk_mul, nI_leI, nI_ltI, nI_eq, pk_sub, ib_nI, nI_clamp, va_up_self, va_up_ne, va_up_up, va_up_comm, pk_us, pk_un, upd_up, updL_up, pk_uLs, pk_uLn, b01_1, b01_0, b01_1s, b01_0s, or_b, hk]
  exact hz
end PRE
