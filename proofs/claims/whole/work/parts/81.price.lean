/-! PRICES: the reference -/
section PRF
variable {G : ai_G} {d n sl : Nat} {Q : List Value → Nat → Nat → ai_M → Prop} {l k : Nat → Nat → Int32} {P S : Nat} {Y : mY} {X : mX}
def rpX (X : mX) (pr w ak : Nat → Int32) : mX := va_up (va_up (va_up X 213 pr) 214 w) 215 ak
set_option maxHeartbeats 4000000 in
theorem rp_zero {step : Int32} {w ak : Nat → Int32} : ∀ (r i : Nat) (pr : Nat → Int32), i + r = 8 → (∀ q, q < i → pr q = 0) → (∀ pr', (∀ q, q < 8 → pr' q = 0) → aw ET G d 242 49 [some (.ref 199), some (.int step), some (.int (nI P)), some (.int (nI 8)), none, none, none] [] 231 sl (mem (rpX X pr' w ak) Y) Q) → aw ET G d 242 30 [some (.ref 199), some (.int step), some (.int (nI P)), some (.int (nI i)), none, none, none] [] 231 sl (mem (rpX X pr w ak) Y) Q := by
  intro r
  induction r with
  | zero =>
    intro i pr hi h0 hQ
    have : i = 8 := by omega
    subst this
    have := hQ pr h0
    simp (disch := omega) [w242_30, w242_31, w242_33, aw_st, ai_cls, ai_len, ai_p, ai_sw, ai_m, ai_c, ai_at, ai_isI, ai_isJ, ai_isA, ai_ld, ai_1i, ai_2i, ai_2l, ai_cn, ai_j, ai_set, ai_set2, ai_nl, ai_rs, ai_sm, Value.category, hk0, hk1, lits, litb, litm, litm2, List.getElem?_cons_zero, List.getElem?_cons_succ, or_n0, bit_r, fi0, fi1, fi2, fi3, nI_toInt, nI_add, pk_mul, nI_leI, nI_ltI, nI_eq, pk_sub, ib_nI, nI_clamp, va_up_self, va_up_ne, va_up_up, va_up_comm, pk_us, pk_un, upd_up, updL_up, pk_uLs, pk_uLn, b01_1, b01_0, b01_1s, b01_0s, or_b, mm200, mu200, mm201, mu201, mm202, mu202, mm203, mu203, mm204, mu204, mm205, mu205, mm206, mu206, mm207, mu207, mm208, mu208, mm209, mu209, mm210, mu210, mm211, mu211, mm212, mu212, mm213, mu213, mm214, mu214, mm215, mu215, mm216, mu216, mm217, mu217, mm218, mu218, mm219, mu219, mm220, mu220, mm221, mu221, mm222, mu222, mm223, mu223, mm224, mu224, mm225, mu225, mm226, mu226, mm227, mu227, mm228, mu228, mm229, mu229, mm230, mu230]
    exact this
  | succ r ih =>
    intro i pr hi h0 hQ
    rw [w242_30]
    unfold rpX
    simp (disch := omega) [w242_31, w242_33, w242_36, x242_37, w242_40, w242_41, w242_42, w242_43, w242_46, aw_st, ai_cls, ai_len, ai_p, ai_sw, ai_m, ai_c, ai_at, ai_isI, ai_isJ, ai_isA, ai_ld, ai_1i, ai_2i, ai_2l, ai_cn, ai_j, ai_set, ai_set2, ai_nl, ai_rs, ai_sm, Value.category, hk0, hk1, lits, litb, litm, litm2, List.getElem?_cons_zero, List.getElem?_cons_succ, or_n0, bit_r, fi0, fi1, fi2, fi3, nI_toInt, nI_add, pk_mul, nI_leI, nI_ltI, nI_eq, pk_sub, ib_nI, nI_clamp, va_up_self, va_up_ne, va_up_up, va_up_comm, pk_us, pk_un, upd_up, updL_up, pk_uLs, pk_uLn, b01_1, b01_0, b01_1s, b01_0s, or_b, mm200, mu200, mm201, mu201, mm202, mu202, mm203, mu203, mm204, mu204, mm205, mu205, mm206, mu206, mm207, mu207, mm208, mu208, mm209, mu209, mm210, mu210, mm211, mu211, mm212, mu212, mm213, mu213, mm214, mu214, mm215, mu215, mm216, mu216, mm217, mu217, mm218, mu218, mm219, mu219, mm220, mu220, mm221, mu221, mm222, mu222, mm223, mu223, mm224, mu224, mm225, mu225, mm226, mu226, mm227, mu227, mm228, mu228, mm229, mu229, mm230, mu230, show ¬ 8 ≤ i by omega]
    have := ih (i + 1) (upd pr i (nI 0)) (by omega) ?_ hQ
    · unfold rpX at this; exact this
    · intro q hq
      by_cases e : q = i
      · subst e; simp [upd]; rfl
      · rw [pk_un e]; exact h0 q (by omega)
set_option maxHeartbeats 4000000 in
theorem ra_zero {step rd mo : Int32} {pr w : Nat → Int32} {z6 : Option Value} : ∀ (r i : Nat) (ak : Nat → Int32), i + r = 8 → (∀ q, q < i → ak q = 0) → (∀ ak', (∀ q, q < 8 → ak' q = 0) → aw ET G d 242 96 [some (.ref 199), some (.int step), some (.int (nI P)), some (.int rd), some (.int mo), some (.int (nI 8)), z6] [] 231 sl (mem (rpX X pr w ak') Y) Q) → aw ET G d 242 75 [some (.ref 199), some (.int step), some (.int (nI P)), some (.int rd), some (.int mo), some (.int (nI i)), z6] [] 231 sl (mem (rpX X pr w ak) Y) Q := by
  intro r
  induction r with
  | zero =>
    intro i ak hi h0 hQ
    have : i = 8 := by omega
    subst this
    have := hQ ak h0
    simp (disch := omega) [w242_75, w242_77, w242_79, aw_st, ai_cls, ai_len, ai_p, ai_sw, ai_m, ai_c, ai_at, ai_isI, ai_isJ, ai_isA, ai_ld, ai_1i, ai_2i, ai_2l, ai_cn, ai_j, ai_set, ai_set2, ai_nl, ai_rs, ai_sm, Value.category, hk0, hk1, lits, litb, litm, litm2, List.getElem?_cons_zero, List.getElem?_cons_succ, or_n0, bit_r, fi0, fi1, fi2, fi3, nI_toInt, nI_add, pk_mul, nI_leI, nI_ltI, nI_eq, pk_sub, ib_nI, nI_clamp, va_up_self, va_up_ne, va_up_up, va_up_comm, pk_us, pk_un, upd_up, updL_up, pk_uLs, pk_uLn, b01_1, b01_0, b01_1s, b01_0s, or_b, mm200, mu200, mm201, mu201, mm202, mu202, mm203, mu203, mm204, mu204, mm205, mu205, mm206, mu206, mm207, mu207, mm208, mu208, mm209, mu209, mm210, mu210, mm211, mu211, mm212, mu212, mm213, mu213, mm214, mu214, mm215, mu215, mm216, mu216, mm217, mu217, mm218, mu218, mm219, mu219, mm220, mu220, mm221, mu221, mm222, mu222, mm223, mu223, mm224, mu224, mm225, mu225, mm226, mu226, mm227, mu227, mm228, mu228, mm229, mu229, mm230, mu230]
    exact this
  | succ r ih =>
    intro i ak hi h0 hQ
    rw [w242_75]
    unfold rpX
    simp (disch := omega) [w242_77, w242_79, w242_82, x242_83, w242_86, w242_88, w242_89, w242_90, w242_93, aw_st, ai_cls, ai_len, ai_p, ai_sw, ai_m, ai_c, ai_at, ai_isI, ai_isJ, ai_isA, ai_ld, ai_1i, ai_2i, ai_2l, ai_cn, ai_j, ai_set, ai_set2, ai_nl, ai_rs, ai_sm, Value.category, hk0, hk1, lits, litb, litm, litm2, List.getElem?_cons_zero, List.getElem?_cons_succ, or_n0, bit_r, fi0, fi1, fi2, fi3, nI_toInt, nI_add, pk_mul, nI_leI, nI_ltI, nI_eq, pk_sub, ib_nI, nI_clamp, va_up_self, va_up_ne, va_up_up, va_up_comm, pk_us, pk_un, upd_up, updL_up, pk_uLs, pk_uLn, b01_1, b01_0, b01_1s, b01_0s, or_b, mm200, mu200, mm201, mu201, mm202, mu202, mm203, mu203, mm204, mu204, mm205, mu205, mm206, mu206, mm207, mu207, mm208, mu208, mm209, mu209, mm210, mu210, mm211, mu211, mm212, mu212, mm213, mu213, mm214, mu214, mm215, mu215, mm216, mu216, mm217, mu217, mm218, mu218, mm219, mu219, mm220, mu220, mm221, mu221, mm222, mu222, mm223, mu223, mm224, mu224, mm225, mu225, mm226, mu226, mm227, mu227, mm228, mu228, mm229, mu229, mm230, mu230, show ¬ 8 ≤ i by omega]
    have := ih (i + 1) (upd ak i (nI 0)) (by omega) ?_ hQ
    · unfold rpX at this; exact this
    · intro q hq
      by_cases e : q = i
      · subst e; simp [upd]; rfl
      · rw [pk_un e]; exact h0 q (by omega)
set_option maxHeartbeats 4000000 in
theorem rc_inner {step rd mo : Int32} {pr spr ak : Nat → Int32} {p : Nat} (hP : P ≤ 8) (hpr : ∀ q, q < P → pr q = spr q) (he : ∀ q, q < P → X 201 (12 + q) = k 1 q) (hn : X 201 (137 + p) = l 1 p) (hl : nI 0 < l 1 p) (hp : p < 8) : ∀ (r q : Nat) (w : Nat → Int32), q + r = P → (w p = mi1 ∨ ∃ a, a < P ∧ w p = nI a) → (∀ w', w' p = chR k spr p q r (w p) → (∀ j, ¬ j = p → w' j = w j) → aw ET G d 242 203 [some (.ref 199), some (.int step), some (.int (nI P)), some (.int rd), some (.int mo), some (.int (nI p)), some (.int (nI P))] [] 231 sl (mem (rpX X pr w' ak) Y) Q) → aw ET G d 242 116 [some (.ref 199), some (.int step), some (.int (nI P)), some (.int rd), some (.int mo), some (.int (nI p)), some (.int (nI q))] [] 231 sl (mem (rpX X pr w ak) Y) Q := by
  have hl2 : ¬ l 1 p ≤ nI 0 := Int32.not_le.mpr hl
  intro r
  induction r with
  | zero =>
    intro q w hq hs hQ
    have : q = P := by omega
    subst this
    have := hQ w rfl (fun _ _ => rfl)
    simp (disch := omega) [w242_116, w242_118, w242_119, aw_st, ai_cls, ai_len, ai_p, ai_sw, ai_m, ai_c, ai_at, ai_isI, ai_isJ, ai_isA, ai_ld, ai_1i, ai_2i, ai_2l, ai_cn, ai_j, ai_set, ai_set2, ai_nl, ai_rs, ai_sm, Value.category, hk0, hk1, lits, litb, litm, litm2, List.getElem?_cons_zero, List.getElem?_cons_succ, or_n0, bit_r, fi0, fi1, fi2, fi3, nI_toInt, nI_add, pk_mul, nI_leI, nI_ltI, nI_eq, pk_sub, ib_nI, nI_clamp, va_up_self, va_up_ne, va_up_up, va_up_comm, pk_us, pk_un, upd_up, updL_up, pk_uLs, pk_uLn, b01_1, b01_0, b01_1s, b01_0s, or_b, mm200, mu200, mm201, mu201, mm202, mu202, mm203, mu203, mm204, mu204, mm205, mu205, mm206, mu206, mm207, mu207, mm208, mu208, mm209, mu209, mm210, mu210, mm211, mu211, mm212, mu212, mm213, mu213, mm214, mu214, mm215, mu215, mm216, mu216, mm217, mu217, mm218, mu218, mm219, mu219, mm220, mu220, mm221, mu221, mm222, mu222, mm223, mu223, mm224, mu224, mm225, mu225, mm226, mu226, mm227, mu227, mm228, mu228, mm229, mu229, mm230, mu230]
    exact this
  | succ r ih =>
    intro q w hq hs hQ
    have he' := he q (by omega)
    have hpq := hpr q (by omega)
    have same : (if ¬ q = p ∧ 0 < k 1 q ∧ (w p = mi1 ∨ spr q < spr (iN (w p))) then nI q else w p) = w p → aw ET G d 242 116 [some (.ref 199), some (.int step), some (.int (nI P)), some (.int rd), some (.int mo), some (.int (nI p)), some (.int (nI (q + 1)))] [] 231 sl (mem (rpX X pr w ak) Y) Q := fun e => ih (q + 1) w (by omega) hs (fun w' h1 h2 => hQ w' (by rw [show chR k spr p q (r + 1) (w p) = chR k spr p (q + 1) r (if ¬ q = p ∧ 0 < k 1 q ∧ (w p = mi1 ∨ spr q < spr (iN (w p))) then nI q else w p) from rfl, e]; exact h1) h2)
    have othr : (if ¬ q = p ∧ 0 < k 1 q ∧ (w p = mi1 ∨ spr q < spr (iN (w p))) then nI q else w p) = nI q → aw ET G d 242 116 [some (.ref 199), some (.int step), some (.int (nI P)), some (.int rd), some (.int mo), some (.int (nI p)), some (.int (nI (q + 1)))] [] 231 sl (mem (rpX X pr (upd w p (nI q)) ak) Y) Q := fun e => ih (q + 1) (upd w p (nI q)) (by omega) (by rw [pk_us]; exact Or.inr ⟨q, by omega, rfl⟩) (fun w' h1 h2 => hQ w' (by rw [show chR k spr p q (r + 1) (w p) = chR k spr p (q + 1) r (if ¬ q = p ∧ 0 < k 1 q ∧ (w p = mi1 ∨ spr q < spr (iN (w p))) then nI q else w p) from rfl, e, h1, pk_us]) (fun j hj => by rw [h2 j hj, pk_un hj]))
    rw [w242_116]
    unfold rpX at same othr ⊢
    by_cases c1 : q = p
    · have i1 := same (by rw [if_neg (by simp [c1])])
      simp (disch := omega) [w242_118, w242_119, w242_122, x242_123, w242_126, w242_129, w242_131, w242_132, w242_133, w242_136, w242_138, w242_140, w242_197, w242_200, aw_st, ai_cls, ai_len, ai_p, ai_sw, ai_m, ai_c, ai_at, ai_isI, ai_isJ, ai_isA, ai_ld, ai_1i, ai_2i, ai_2l, ai_cn, ai_j, ai_set, ai_set2, ai_nl, ai_rs, ai_sm, Value.category, hk0, hk1, lits, litb, litm, litm2, List.getElem?_cons_zero, List.getElem?_cons_succ, or_n0, bit_r, fi0, fi1, fi2, fi3, nI_toInt, nI_add, pk_mul, nI_leI, nI_ltI, nI_eq, pk_sub, ib_nI, nI_clamp, va_up_self, va_up_ne, va_up_up, va_up_comm, pk_us, pk_un, upd_up, updL_up, pk_uLs, pk_uLn, b01_1, b01_0, b01_1s, b01_0s, or_b, mm200, mu200, mm201, mu201, mm202, mu202, mm203, mu203, mm204, mu204, mm205, mu205, mm206, mu206, mm207, mu207, mm208, mu208, mm209, mu209, mm210, mu210, mm211, mu211, mm212, mu212, mm213, mu213, mm214, mu214, mm215, mu215, mm216, mu216, mm217, mu217, mm218, mu218, mm219, mu219, mm220, mu220, mm221, mu221, mm222, mu222, mm223, mu223, mm224, mu224, mm225, mu225, mm226, mu226, mm227, mu227, mm228, mu228, mm229, mu229, mm230, mu230, hn, hl2, c1, show ¬ P ≤ p by omega]
      rw [c1] at i1
      exact i1
    · rcases lt_or (nI 0) (k 1 q) with ⟨g1, g2⟩ | ⟨g1, g2⟩
      · have g1' : (0 : Int32) < k 1 q := g1
        rcases hs with hs | ⟨a, ha, hs⟩
        · have i1 := othr (by rw [if_pos ⟨c1, g1, Or.inl hs⟩])
          have cm : mi1 < nI 0 := by decide
          simp (disch := omega) [w242_118, w242_119, w242_122, x242_123, w242_126, w242_129, w242_131, w242_132, w242_133, w242_136, w242_138, w242_140, w242_143, x242_144, w242_147, w242_149, w242_151, w242_152, w242_153, w242_156, x242_157, w242_160, w242_162, w242_163, w242_188, x242_189, w242_192, w242_194, w242_196, w242_197, w242_200, aw_st, ai_cls, ai_len, ai_p, ai_sw, ai_m, ai_c, ai_at, ai_isI, ai_isJ, ai_isA, ai_ld, ai_1i, ai_2i, ai_2l, ai_cn, ai_j, ai_set, ai_set2, ai_nl, ai_rs, ai_sm, Value.category, hk0, hk1, lits, litb, litm, litm2, List.getElem?_cons_zero, List.getElem?_cons_succ, or_n0, bit_r, fi0, fi1, fi2, fi3, nI_toInt, nI_add, pk_mul, nI_leI, nI_ltI, nI_eq, pk_sub, ib_nI, nI_clamp, va_up_self, va_up_ne, va_up_up, va_up_comm, pk_us, pk_un, upd_up, updL_up, pk_uLs, pk_uLn, b01_1, b01_0, b01_1s, b01_0s, or_b, mm200, mu200, mm201, mu201, mm202, mu202, mm203, mu203, mm204, mu204, mm205, mu205, mm206, mu206, mm207, mu207, mm208, mu208, mm209, mu209, mm210, mu210, mm211, mu211, mm212, mu212, mm213, mu213, mm214, mu214, mm215, mu215, mm216, mu216, mm217, mu217, mm218, mu218, mm219, mu219, mm220, mu220, mm221, mu221, mm222, mu222, mm223, mu223, mm224, mu224, mm225, mu225, mm226, mu226, mm227, mu227, mm228, mu228, mm229, mu229, mm230, mu230, hn, hl2, c1, he', g2, hs, cm, show ¬ P ≤ q by omega]
          exact i1
        · have ia : iN (nI a) = a := iN_nI (by omega)
          have pa := hpr a ha
          rcases lt_or (spr q) (spr a) with ⟨g3, g4⟩ | ⟨g3, g4⟩
          · have i1 := othr (by rw [hs, ia, if_pos ⟨c1, g1, Or.inr g3⟩])
            simp (disch := omega) [w242_118, w242_119, w242_122, x242_123, w242_126, w242_129, w242_131, w242_132, w242_133, w242_136, w242_138, w242_140, w242_143, x242_144, w242_147, w242_149, w242_151, w242_152, w242_153, w242_156, x242_157, w242_160, w242_162, w242_163, w242_166, x242_167, w242_170, w242_172, w242_173, x242_174, w242_177, x242_178, w242_181, w242_183, w242_184, w242_185, w242_188, x242_189, w242_192, w242_194, w242_196, w242_197, w242_200, aw_st, ai_cls, ai_len, ai_p, ai_sw, ai_m, ai_c, ai_at, ai_isI, ai_isJ, ai_isA, ai_ld, ai_1i, ai_2i, ai_2l, ai_cn, ai_j, ai_set, ai_set2, ai_nl, ai_rs, ai_sm, Value.category, hk0, hk1, lits, litb, litm, litm2, List.getElem?_cons_zero, List.getElem?_cons_succ, or_n0, bit_r, fi0, fi1, fi2, fi3, nI_toInt, nI_add, pk_mul, nI_leI, nI_ltI, nI_eq, pk_sub, ib_nI, nI_clamp, va_up_self, va_up_ne, va_up_up, va_up_comm, pk_us, pk_un, upd_up, updL_up, pk_uLs, pk_uLn, b01_1, b01_0, b01_1s, b01_0s, or_b, mm200, mu200, mm201, mu201, mm202, mu202, mm203, mu203, mm204, mu204, mm205, mu205, mm206, mu206, mm207, mu207, mm208, mu208, mm209, mu209, mm210, mu210, mm211, mu211, mm212, mu212, mm213, mu213, mm214, mu214, mm215, mu215, mm216, mu216, mm217, mu217, mm218, mu218, mm219, mu219, mm220, mu220, mm221, mu221, mm222, mu222, mm223, mu223, mm224, mu224, mm225, mu225, mm226, mu226, mm227, mu227, mm228, mu228, mm229, mu229, mm230, mu230, hn, hl2, c1, he', g2, hs, hpq, pa, g4, show ¬ P ≤ q by omega, show ¬ a < 0 by omega]
            exact i1
          · have i1 := same (by rw [hs, ia, if_neg (fun z => z.2.2.elim (fun z => nI_mi1 (by omega) z) (fun z => g3 z))])
            simp (disch := omega) [w242_118, w242_119, w242_122, x242_123, w242_126, w242_129, w242_131, w242_132, w242_133, w242_136, w242_138, w242_140, w242_143, x242_144, w242_147, w242_149, w242_151, w242_152, w242_153, w242_156, x242_157, w242_160, w242_162, w242_163, w242_166, x242_167, w242_170, w242_172, w242_173, x242_174, w242_177, x242_178, w242_181, w242_183, w242_184, w242_185, w242_197, w242_200, aw_st, ai_cls, ai_len, ai_p, ai_sw, ai_m, ai_c, ai_at, ai_isI, ai_isJ, ai_isA, ai_ld, ai_1i, ai_2i, ai_2l, ai_cn, ai_j, ai_set, ai_set2, ai_nl, ai_rs, ai_sm, Value.category, hk0, hk1, lits, litb, litm, litm2, List.getElem?_cons_zero, List.getElem?_cons_succ, or_n0, bit_r, fi0, fi1, fi2, fi3, nI_toInt, nI_add, pk_mul, nI_leI, nI_ltI, nI_eq, pk_sub, ib_nI, nI_clamp, va_up_self, va_up_ne, va_up_up, va_up_comm, pk_us, pk_un, upd_up, updL_up, pk_uLs, pk_uLn, b01_1, b01_0, b01_1s, b01_0s, or_b, mm200, mu200, mm201, mu201, mm202, mu202, mm203, mu203, mm204, mu204, mm205, mu205, mm206, mu206, mm207, mu207, mm208, mu208, mm209, mu209, mm210, mu210, mm211, mu211, mm212, mu212, mm213, mu213, mm214, mu214, mm215, mu215, mm216, mu216, mm217, mu217, mm218, mu218, mm219, mu219, mm220, mu220, mm221, mu221, mm222, mu222, mm223, mu223, mm224, mu224, mm225, mu225, mm226, mu226, mm227, mu227, mm228, mu228, mm229, mu229, mm230, mu230, hn, hl2, c1, he', g2, hs, hpq, pa, g4, show ¬ P ≤ q by omega, show ¬ a < 0 by omega]
            exact i1
      · have i1 := same (by rw [if_neg (fun z => g1 z.2.1)])
        simp (disch := omega) [w242_118, w242_119, w242_122, x242_123, w242_126, w242_129, w242_131, w242_132, w242_133, w242_136, w242_138, w242_140, w242_143, x242_144, w242_147, w242_149, w242_151, w242_152, w242_153, w242_197, w242_200, aw_st, ai_cls, ai_len, ai_p, ai_sw, ai_m, ai_c, ai_at, ai_isI, ai_isJ, ai_isA, ai_ld, ai_1i, ai_2i, ai_2l, ai_cn, ai_j, ai_set, ai_set2, ai_nl, ai_rs, ai_sm, Value.category, hk0, hk1, lits, litb, litm, litm2, List.getElem?_cons_zero, List.getElem?_cons_succ, or_n0, bit_r, fi0, fi1, fi2, fi3, nI_toInt, nI_add, pk_mul, nI_leI, nI_ltI, nI_eq, pk_sub, ib_nI, nI_clamp, va_up_self, va_up_ne, va_up_up, va_up_comm, pk_us, pk_un, upd_up, updL_up, pk_uLs, pk_uLn, b01_1, b01_0, b01_1s, b01_0s, or_b, mm200, mu200, mm201, mu201, mm202, mu202, mm203, mu203, mm204, mu204, mm205, mu205, mm206, mu206, mm207, mu207, mm208, mu208, mm209, mu209, mm210, mu210, mm211, mu211, mm212, mu212, mm213, mu213, mm214, mu214, mm215, mu215, mm216, mu216, mm217, mu217, mm218, mu218, mm219, mu219, mm220, mu220, mm221, mu221, mm222, mu222, mm223, mu223, mm224, mu224, mm225, mu225, mm226, mu226, mm227, mu227, mm228, mu228, mm229, mu229, mm230, mu230, hn, hl2, c1, he', g2, show ¬ P ≤ q by omega]
        exact i1
end PRF
