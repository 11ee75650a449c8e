/-! PRICES: the reference, II -/
section PRG
variable {G : ai_G} {d n sl : Nat} {Q : List Value → Nat → Nat → ai_M → Prop} {l k : Nat → Nat → Int32} {P S : Nat} {Y : mY} {X : mX}
set_option maxHeartbeats 4000000 in
theorem rc_loop {step rd mo : Int32} {pr spr : Nat → Int32} (hP : P ≤ 8) (hpr : ∀ q, q < P → pr q = spr q) (he : ∀ q, q < P → X 201 (12 + q) = k 1 q) (hn : ∀ p, p < 8 → X 201 (137 + p) = l 1 p) : ∀ (r p : Nat) (w ak : Nat → Int32) (z6 : Option Value), p + r = P → (∀ q, q < p → w q = wantP l k spr P q) → (∀ q, q < P → hsR l k spr P q p r (ak q) = hsR l k spr P q 0 P 0) → (∀ w' ak' z6, (∀ q, q < P → w' q = wantP l k spr P q) → (∀ q, q < P → ak' q = hsR l k spr P q 0 P 0) → aw ET G d 242 245 [some (.ref 199), some (.int step), some (.int (nI P)), some (.int rd), some (.int mo), some (.int (nI P)), z6] [] 231 sl (mem (rpX X pr w' ak') Y) Q) → aw ET G d 242 99 [some (.ref 199), some (.int step), some (.int (nI P)), some (.int rd), some (.int mo), some (.int (nI p)), z6] [] 231 sl (mem (rpX X pr w ak) Y) Q := by
  intro r
  induction r with
  | zero =>
    intro p w ak z6 hp h1 h2 hQ
    have : p = P := by omega
    subst this
    have := hQ w ak z6 h1 h2
    simp (disch := omega) [w242_99, w242_101, w242_102, aw_st, ai_cls, ai_len, ai_p, ai_sw, ai_m, ai_c, ai_at, ai_isI, ai_isJ, ai_isA, ai_ld, ai_1i, ai_2i, ai_2l, ai_cn, ai_j, ai_set, ai_set2, ai_nl, ai_rs, ai_sm, Value.category, hk0, hk1, lits, litb, litm, litm2, List.getElem?_cons_zero, List.getElem?_cons_succ, or_n0, bit_r, fi0, fi1, fi2, fi3, nI_toInt, nI_add, pk_mul, nI_leI, nI_ltI, nI_eq, pk_sub, ib_nI, nI_clamp, va_up_self, va_up_ne, va_up_up, va_up_comm, pk_us, pk_un, upd_up, updL_up, pk_uLs, pk_uLn, b01_1, b01_0, b01_1s, b01_0s, or_b, mm200, mu200, mm201, mu201, mm202, mu202, mm203, mu203, mm204, mu204, mm205, mu205, mm206, mu206, mm207, mu207, mm208, mu208, mm209, mu209, mm210, mu210, mm211, mu211, mm212, mu212, mm213, mu213, mm214, mu214, mm215, mu215, mm216, mu216, mm217, mu217, mm218, mu218, mm219, mu219, mm220, mu220, mm221, mu221, mm222, mu222, mm223, mu223, mm224, mu224, mm225, mu225, mm226, mu226, mm227, mu227, mm228, mu228, mm229, mu229, mm230, mu230]
    exact this
  | succ r ih =>
    intro p w ak z6 hp h1 h2 hQ
    have hn' := hn p (by omega)
    have fin : ∀ w2, (∀ j, ¬ j = p → w2 j = w j) → w2 p = wantP l k spr P p → ∀ z6, aw ET G d 242 203 [some (.ref 199), some (.int step), some (.int (nI P)), some (.int rd), some (.int mo), some (.int (nI p)), z6] [] 231 sl (mem (rpX X pr w2 ak) Y) Q := by
      intro w2 h3 h4 z6
      have hw2 : ∀ q, q < p + 1 → w2 q = wantP l k spr P q := by
        intro q hq
        by_cases e : q = p
        · subst e; exact h4
        · rw [h3 q e]; exact h1 q (by omega)
      rcases wantP_ok (l := l) (k := k) (P := P) (pr := spr) p with e | ⟨a, ha, e⟩
      · have cm : mi1 < nI 0 := by decide
        have i1 := ih (p + 1) w2 ak z6 (by omega) hw2 (fun q hq => by
          have := h2 q hq
          rw [show hsR l k spr P q p (r + 1) (ak q) = hsR l k spr P q (p + 1) r (if wantP l k spr P p = nI q then ak q + l 1 p else ak q) from rfl, e, if_neg (mi1_nI (by omega))] at this
          exact this) hQ
        rw [e] at h4
        unfold rpX at i1 ⊢
        simp (disch := omega) [w242_203, x242_204, w242_207, w242_209, w242_210, w242_239, w242_242, aw_st, ai_cls, ai_len, ai_p, ai_sw, ai_m, ai_c, ai_at, ai_isI, ai_isJ, ai_isA, ai_ld, ai_1i, ai_2i, ai_2l, ai_cn, ai_j, ai_set, ai_set2, ai_nl, ai_rs, ai_sm, Value.category, hk0, hk1, lits, litb, litm, litm2, List.getElem?_cons_zero, List.getElem?_cons_succ, or_n0, bit_r, fi0, fi1, fi2, fi3, nI_toInt, nI_add, pk_mul, nI_leI, nI_ltI, nI_eq, pk_sub, ib_nI, nI_clamp, va_up_self, va_up_ne, va_up_up, va_up_comm, pk_us, pk_un, upd_up, updL_up, pk_uLs, pk_uLn, b01_1, b01_0, b01_1s, b01_0s, or_b, mm200, mu200, mm201, mu201, mm202, mu202, mm203, mu203, mm204, mu204, mm205, mu205, mm206, mu206, mm207, mu207, mm208, mu208, mm209, mu209, mm210, mu210, mm211, mu211, mm212, mu212, mm213, mu213, mm214, mu214, mm215, mu215, mm216, mu216, mm217, mu217, mm218, mu218, mm219, mu219, mm220, mu220, mm221, mu221, mm222, mu222, mm223, mu223, mm224, mu224, mm225, mu225, mm226, mu226, mm227, mu227, mm228, mu228, mm229, mu229, mm230, mu230, h4, cm]
        exact i1
      · have i1 := ih (p + 1) w2 (upd ak a (ak a + l 1 p)) z6 (by omega) hw2 (fun q hq => by
          have := h2 q hq
          rw [show hsR l k spr P q p (r + 1) (ak q) = hsR l k spr P q (p + 1) r (if wantP l k spr P p = nI q then ak q + l 1 p else ak q) from rfl, e] at this
          by_cases c : q = a
          · subst c; rw [pk_us]; rw [if_pos rfl] at this; exact this
          · rw [pk_un c]; rw [if_neg (fun q1 => c ((nI_eq (by omega) (by omega)).mp q1).symm)] at this; exact this) hQ
        rw [e] at h4
        unfold rpX at i1 ⊢
        simp (disch := omega) [w242_203, x242_204, w242_207, w242_209, w242_210, w242_213, x242_214, w242_217, x242_218, w242_221, w242_223, w242_224, w242_225, w242_226, x242_227, w242_230, w242_233, w242_235, w242_236, w242_237, w242_238, w242_239, w242_242, aw_st, ai_cls, ai_len, ai_p, ai_sw, ai_m, ai_c, ai_at, ai_isI, ai_isJ, ai_isA, ai_ld, ai_1i, ai_2i, ai_2l, ai_cn, ai_j, ai_set, ai_set2, ai_nl, ai_rs, ai_sm, Value.category, hk0, hk1, lits, litb, litm, litm2, List.getElem?_cons_zero, List.getElem?_cons_succ, or_n0, bit_r, fi0, fi1, fi2, fi3, nI_toInt, nI_add, pk_mul, nI_leI, nI_ltI, nI_eq, pk_sub, ib_nI, nI_clamp, va_up_self, va_up_ne, va_up_up, va_up_comm, pk_us, pk_un, upd_up, updL_up, pk_uLs, pk_uLn, b01_1, b01_0, b01_1s, b01_0s, or_b, mm200, mu200, mm201, mu201, mm202, mu202, mm203, mu203, mm204, mu204, mm205, mu205, mm206, mu206, mm207, mu207, mm208, mu208, mm209, mu209, mm210, mu210, mm211, mu211, mm212, mu212, mm213, mu213, mm214, mu214, mm215, mu215, mm216, mu216, mm217, mu217, mm218, mu218, mm219, mu219, mm220, mu220, mm221, mu221, mm222, mu222, mm223, mu223, mm224, mu224, mm225, mu225, mm226, mu226, mm227, mu227, mm228, mu228, mm229, mu229, mm230, mu230, h4, hn', show ¬ a < 0 by omega]
        exact i1
    rw [w242_99]
    rcases lt_or (nI 0) (l 1 p) with ⟨g1, g2⟩ | ⟨g1, g2⟩
    · have hi := rc_inner (G := G) (d := d) (sl := sl) (Q := Q) (Y := Y) (X := X) (step := step) (rd := rd) (mo := mo) (pr := pr) (spr := spr) (ak := ak) (l := l) (k := k) (p := p) hP hpr he hn' g1 (by omega) P 0 (upd w p mi1) (by omega) (Or.inl pk_us) (fun w' e1 e2 => fin w' (fun j hj => by rw [e2 j hj, pk_un hj]) (by rw [e1, pk_us]; exact (if_pos g1).symm) _)
      unfold rpX at hi ⊢
      simp (disch := omega) [w242_101, w242_102, w242_105, x242_106, w242_109, w242_111, w242_112, w242_113, w242_114, aw_st, ai_cls, ai_len, ai_p, ai_sw, ai_m, ai_c, ai_at, ai_isI, ai_isJ, ai_isA, ai_ld, ai_1i, ai_2i, ai_2l, ai_cn, ai_j, ai_set, ai_set2, ai_nl, ai_rs, ai_sm, Value.category, hk0, hk1, lits, litb, litm, litm2, List.getElem?_cons_zero, List.getElem?_cons_succ, or_n0, bit_r, fi0, fi1, fi2, fi3, nI_toInt, nI_add, pk_mul, nI_leI, nI_ltI, nI_eq, pk_sub, ib_nI, nI_clamp, va_up_self, va_up_ne, va_up_up, va_up_comm, pk_us, pk_un, upd_up, updL_up, pk_uLs, pk_uLn, b01_1, b01_0, b01_1s, b01_0s, or_b, mm200, mu200, mm201, mu201, mm202, mu202, mm203, mu203, mm204, mu204, mm205, mu205, mm206, mu206, mm207, mu207, mm208, mu208, mm209, mu209, mm210, mu210, mm211, mu211, mm212, mu212, mm213, mu213, mm214, mu214, mm215, mu215, mm216, mu216, mm217, mu217, mm218, mu218, mm219, mu219, mm220, mu220, mm221, mu221, mm222, mu222, mm223, mu223, mm224, mu224, mm225, mu225, mm226, mu226, mm227, mu227, mm228, mu228, mm229, mu229, mm230, mu230, show ¬ P ≤ p by omega]
      exact hi
    · have hf := fin (upd w p mi1) (fun j hj => pk_un hj) (by rw [pk_us]; exact (if_neg g1).symm) (some (.int (nI 0)))
      unfold rpX at hf ⊢
      by_cases hp0 : P ≤ 0
      · omega
      · simp (disch := omega) [w242_101, w242_102, w242_105, x242_106, w242_109, w242_111, w242_112, w242_113, w242_114, w242_116, w242_118, w242_119, w242_122, x242_123, w242_126, w242_129, w242_131, w242_132, w242_133, aw_st, ai_cls, ai_len, ai_p, ai_sw, ai_m, ai_c, ai_at, ai_isI, ai_isJ, ai_isA, ai_ld, ai_1i, ai_2i, ai_2l, ai_cn, ai_j, ai_set, ai_set2, ai_nl, ai_rs, ai_sm, Value.category, hk0, hk1, lits, litb, litm, litm2, List.getElem?_cons_zero, List.getElem?_cons_succ, or_n0, bit_r, fi0, fi1, fi2, fi3, nI_toInt, nI_add, pk_mul, nI_leI, nI_ltI, nI_eq, pk_sub, ib_nI, nI_clamp, va_up_self, va_up_ne, va_up_up, va_up_comm, pk_us, pk_un, upd_up, updL_up, pk_uLs, pk_uLn, b01_1, b01_0, b01_1s, b01_0s, or_b, mm200, mu200, mm201, mu201, mm202, mu202, mm203, mu203, mm204, mu204, mm205, mu205, mm206, mu206, mm207, mu207, mm208, mu208, mm209, mu209, mm210, mu210, mm211, mu211, mm212, mu212, mm213, mu213, mm214, mu214, mm215, mu215, mm216, mu216, mm217, mu217, mm218, mu218, mm219, mu219, mm220, mu220, mm221, mu221, mm222, mu222, mm223, mu223, mm224, mu224, mm225, mu225, mm226, mu226, mm227, mu227, mm228, mu228, mm229, mu229, mm230, mu230, hn', g2, hp0, show ¬ P ≤ p by omega]
        exact hf
set_option maxHeartbeats 4000000 in
theorem rr_loop {step rd : Int32} {spr w ak : Nat → Int32} {z6 : Option Value} (hP : P ≤ 8) (he : ∀ q, q < P → X 201 (12 + q) = k 1 q) (hh : ∀ q, q < P → ak q = hsR l k spr P q 0 P 0) : ∀ (r q : Nat) (pr : Nat → Int32) (b : Bool), q + r = P → (∀ j, j < P → pr j = if j < q then prN l k P step spr j else spr j) → (∀ p2, (∀ j, j < P → p2 j = prN l k P step spr j) → aw ET G d 242 54 [some (.ref 199), some (.int step), some (.int (nI P)), some (.int rd), some (.int (b01 (rzR l k P spr q r b = true))), some (.int (nI P)), z6] [] 231 sl (mem (rpX X p2 w ak) Y) Q) → aw ET G d 242 248 [some (.ref 199), some (.int step), some (.int (nI P)), some (.int rd), some (.int (b01 (b = true))), some (.int (nI q)), z6] [] 231 sl (mem (rpX X pr w ak) Y) Q := by
  intro r
  induction r with
  | zero =>
    intro q pr b hq h1 hQ
    have : q = P := by omega
    subst this
    have := hQ pr (fun j hj => by rw [h1 j hj, if_pos (by omega)])
    simp (disch := omega) [w242_248, w242_250, w242_251, w242_297, aw_st, ai_cls, ai_len, ai_p, ai_sw, ai_m, ai_c, ai_at, ai_isI, ai_isJ, ai_isA, ai_ld, ai_1i, ai_2i, ai_2l, ai_cn, ai_j, ai_set, ai_set2, ai_nl, ai_rs, ai_sm, Value.category, hk0, hk1, lits, litb, litm, litm2, List.getElem?_cons_zero, List.getElem?_cons_succ, or_n0, bit_r, fi0, fi1, fi2, fi3, nI_toInt, nI_add, pk_mul, nI_leI, nI_ltI, nI_eq, pk_sub, ib_nI, nI_clamp, va_up_self, va_up_ne, va_up_up, va_up_comm, pk_us, pk_un, upd_up, updL_up, pk_uLs, pk_uLn, b01_1, b01_0, b01_1s, b01_0s, or_b, mm200, mu200, mm201, mu201, mm202, mu202, mm203, mu203, mm204, mu204, mm205, mu205, mm206, mu206, mm207, mu207, mm208, mu208, mm209, mu209, mm210, mu210, mm211, mu211, mm212, mu212, mm213, mu213, mm214, mu214, mm215, mu215, mm216, mu216, mm217, mu217, mm218, mu218, mm219, mu219, mm220, mu220, mm221, mu221, mm222, mu222, mm223, mu223, mm224, mu224, mm225, mu225, mm226, mu226, mm227, mu227, mm228, mu228, mm229, mu229, mm230, mu230]
    exact this
  | succ r ih =>
    intro q pr b hq h1 hQ
    have he' := he q (by omega)
    have hh' := hh q (by omega)
    have hp := h1 q (by omega)
    rw [if_neg (by omega)] at hp
    rw [w242_248]
    rcases lt_or (k 1 q) (hsR l k spr P q 0 P (nI 0)) with ⟨g1, g2⟩ | ⟨g1, g2⟩
    · have g1' : k 1 q < hsR l k spr P q 0 P 0 := g1
      have hN : prN l k P step spr q = spr q + step := if_pos ⟨by omega, g1⟩
      have i1 := ih (q + 1) (upd pr q (spr q + step)) true (by omega) (by
        intro j hj
        by_cases e : j = q
        · subst e; rw [pk_us, if_pos (by omega), hN]
        · rw [pk_un e, h1 j hj]
          by_cases e2 : j < q
          · rw [if_pos e2, if_pos (by omega)]
          · rw [if_neg e2, if_neg (by omega)]) (fun p2 h2 => by have := hQ p2 h2; unfold rzR at this; rw [if_pos g1'] at this; exact this)
      unfold rpX at i1 ⊢
      simp (disch := omega) [w242_250, w242_251, w242_254, x242_255, w242_258, w242_260, w242_261, x242_262, w242_265, w242_267, w242_269, w242_270, w242_271, w242_277, x242_278, w242_281, w242_283, w242_284, w242_285, w242_286, w242_287, w242_288, w242_289, w242_291, w242_294, aw_st, ai_cls, ai_len, ai_p, ai_sw, ai_m, ai_c, ai_at, ai_isI, ai_isJ, ai_isA, ai_ld, ai_1i, ai_2i, ai_2l, ai_cn, ai_j, ai_set, ai_set2, ai_nl, ai_rs, ai_sm, Value.category, hk0, hk1, lits, litb, litm, litm2, List.getElem?_cons_zero, List.getElem?_cons_succ, or_n0, bit_r, fi0, fi1, fi2, fi3, nI_toInt, nI_add, pk_mul, nI_leI, nI_ltI, nI_eq, pk_sub, ib_nI, nI_clamp, va_up_self, va_up_ne, va_up_up, va_up_comm, pk_us, pk_un, upd_up, updL_up, pk_uLs, pk_uLn, b01_1, b01_0, b01_1s, b01_0s, or_b, mm200, mu200, mm201, mu201, mm202, mu202, mm203, mu203, mm204, mu204, mm205, mu205, mm206, mu206, mm207, mu207, mm208, mu208, mm209, mu209, mm210, mu210, mm211, mu211, mm212, mu212, mm213, mu213, mm214, mu214, mm215, mu215, mm216, mu216, mm217, mu217, mm218, mu218, mm219, mu219, mm220, mu220, mm221, mu221, mm222, mu222, mm223, mu223, mm224, mu224, mm225, mu225, mm226, mu226, mm227, mu227, mm228, mu228, mm229, mu229, mm230, mu230, he', hh', hp, g1, show ¬ P ≤ q by omega]
      exact i1
    · have g1' : ¬ k 1 q < hsR l k spr P q 0 P 0 := g1
      have hN : prN l k P step spr q = spr q := if_neg (fun x => g1 x.2)
      have i1 := ih (q + 1) pr b (by omega) (by
        intro j hj
        rw [h1 j hj]
        by_cases e : j = q
        · subst e; rw [if_neg (by omega), if_pos (by omega), hN]
        · by_cases e2 : j < q
          · rw [if_pos e2, if_pos (by omega)]
          · rw [if_neg e2, if_neg (by omega)]) (fun p2 h2 => by have := hQ p2 h2; unfold rzR at this; rw [if_neg g1'] at this; exact this)
      unfold rpX at i1 ⊢
      simp (disch := omega) [w242_250, w242_251, w242_254, x242_255, w242_258, w242_260, w242_261, x242_262, w242_265, w242_267, w242_269, w242_270, w242_271, w242_274, w242_291, w242_294, aw_st, ai_cls, ai_len, ai_p, ai_sw, ai_m, ai_c, ai_at, ai_isI, ai_isJ, ai_isA, ai_ld, ai_1i, ai_2i, ai_2l, ai_cn, ai_j, ai_set, ai_set2, ai_nl, ai_rs, ai_sm, Value.category, hk0, hk1, lits, litb, litm, litm2, List.getElem?_cons_zero, List.getElem?_cons_succ, or_n0, bit_r, fi0, fi1, fi2, fi3, nI_toInt, nI_add, pk_mul, nI_leI, nI_ltI, nI_eq, pk_sub, ib_nI, nI_clamp, va_up_self, va_up_ne, va_up_up, va_up_comm, pk_us, pk_un, upd_up, updL_up, pk_uLs, pk_uLn, b01_1, b01_0, b01_1s, b01_0s, or_b, mm200, mu200, mm201, mu201, mm202, mu202, mm203, mu203, mm204, mu204, mm205, mu205, mm206, mu206, mm207, mu207, mm208, mu208, mm209, mu209, mm210, mu210, mm211, mu211, mm212, mu212, mm213, mu213, mm214, mu214, mm215, mu215, mm216, mu216, mm217, mu217, mm218, mu218, mm219, mu219, mm220, mu220, mm221, mu221, mm222, mu222, mm223, mu223, mm224, mu224, mm225, mu225, mm226, mu226, mm227, mu227, mm228, mu228, mm229, mu229, mm230, mu230, he', hh', hp, g1, show ¬ P ≤ q by omega]
      exact i1
set_option maxHeartbeats 4000000 in
theorem rp_rounds {step : Int32} (hP : P ≤ 8) (he : ∀ q, q < P → X 201 (12 + q) = k 1 q) (hn : ∀ p, p < 8 → X 201 (137 + p) = l 1 p) : ∀ (r c : Nat) (pr spr w ak : Nat → Int32) (z5 z6 : Option Value), r + c = 499 → (∀ q, q < P → pr q = spr q) → (∀ p2 w2 a2, (∀ q, q < P → p2 q = (priR l k P step r spr c).1 q) → (∀ q, q < P → w2 q = wantP l k (priR l k P step r spr c).2.1 P q) → Q [.int (nI (priR l k P step r spr c).2.2)] 231 sl (mem (rpX (va_up X 199 (upd (X 199) 38 (nI P))) p2 w2 a2) Y)) → aw ET G d 242 54 [some (.ref 199), some (.int step), some (.int (nI P)), some (.int (nI c)), some (.int (nI 1)), z5, z6] [] 231 sl (mem (rpX X pr w ak) Y) Q := by
  intro r
  have fin : ∀ (c : Nat) (mo : Int32) (pr w ak : Nat → Int32) (z5 z6 : Option Value), (mo = nI 0 ∨ c = 500) → c ≤ 500 → Q [.int (nI c)] 231 sl (mem (rpX (va_up X 199 (upd (X 199) 38 (nI P))) pr w ak) Y) → aw ET G d 242 54 [some (.ref 199), some (.int step), some (.int (nI P)), some (.int (nI c)), some (.int mo), z5, z6] [] 231 sl (mem (rpX X pr w ak) Y) Q := by
    intro c mo pr w ak z5 z6 h1 h2 hQ
    unfold rpX at hQ ⊢
    by_cases h0 : mo = nI 0
    · simp (disch := omega) [w242_54, w242_56, w242_300, w242_301, x242_302, w242_305, w242_306, rt242, aw_st, ai_cls, ai_len, ai_p, ai_sw, ai_m, ai_c, ai_at, ai_isI, ai_isJ, ai_isA, ai_ld, ai_1i, ai_2i, ai_2l, ai_cn, ai_j, ai_set, ai_set2, ai_nl, ai_rs, ai_sm, Value.category, hk0, hk1, lits, litb, litm, litm2, List.getElem?_cons_zero, List.getElem?_cons_succ, or_n0, bit_r, fi0, fi1, fi2, fi3, nI_toInt, nI_add, pk_mul, nI_leI, nI_ltI, nI_eq, pk_sub, ib_nI, nI_clamp, va_up_self, va_up_ne, va_up_up, va_up_comm, pk_us, pk_un, upd_up, updL_up, pk_uLs, pk_uLn, b01_1, b01_0, b01_1s, b01_0s, or_b, mm200, mu200, mm201, mu201, mm202, mu202, mm203, mu203, mm204, mu204, mm205, mu205, mm206, mu206, mm207, mu207, mm208, mu208, mm209, mu209, mm210, mu210, mm211, mu211, mm212, mu212, mm213, mu213, mm214, mu214, mm215, mu215, mm216, mu216, mm217, mu217, mm218, mu218, mm219, mu219, mm220, mu220, mm221, mu221, mm222, mu222, mm223, mu223, mm224, mu224, mm225, mu225, mm226, mu226, mm227, mu227, mm228, mu228, mm229, mu229, mm230, mu230, h0]
      exact hQ
    · have hc : c = 500 := by rcases h1 with h1 | h1; · exact absurd h1 h0
                              · exact h1
      subst hc
      simp (disch := omega) [w242_54, w242_56, w242_59, w242_60, w242_63, w242_300, w242_301, x242_302, w242_305, w242_306, rt242, aw_st, ai_cls, ai_len, ai_p, ai_sw, ai_m, ai_c, ai_at, ai_isI, ai_isJ, ai_isA, ai_ld, ai_1i, ai_2i, ai_2l, ai_cn, ai_j, ai_set, ai_set2, ai_nl, ai_rs, ai_sm, Value.category, hk0, hk1, lits, litb, litm, litm2, List.getElem?_cons_zero, List.getElem?_cons_succ, or_n0, bit_r, fi0, fi1, fi2, fi3, nI_toInt, nI_add, pk_mul, nI_leI, nI_ltI, nI_eq, pk_sub, ib_nI, nI_clamp, va_up_self, va_up_ne, va_up_up, va_up_comm, pk_us, pk_un, upd_up, updL_up, pk_uLs, pk_uLn, b01_1, b01_0, b01_1s, b01_0s, or_b, mm200, mu200, mm201, mu201, mm202, mu202, mm203, mu203, mm204, mu204, mm205, mu205, mm206, mu206, mm207, mu207, mm208, mu208, mm209, mu209, mm210, mu210, mm211, mu211, mm212, mu212, mm213, mu213, mm214, mu214, mm215, mu215, mm216, mu216, mm217, mu217, mm218, mu218, mm219, mu219, mm220, mu220, mm221, mu221, mm222, mu222, mm223, mu223, mm224, mu224, mm225, mu225, mm226, mu226, mm227, mu227, mm228, mu228, mm229, mu229, mm230, mu230, h0]
      exact hQ
  have body : ∀ (c : Nat) (pr spr w ak : Nat → Int32) (z5 z6 : Option Value), c < 500 → (∀ q, q < P → pr q = spr q) → (∀ p2 w2 a2 z5 z6, (∀ q, q < P → p2 q = prN l k P step spr q) → (∀ q, q < P → w2 q = wantP l k spr P q) → aw ET G d 242 54 [some (.ref 199), some (.int step), some (.int (nI P)), some (.int (nI (c + 1))), some (.int (b01 (rzR l k P spr 0 P false = true))), z5, z6] [] 231 sl (mem (rpX X p2 w2 a2) Y) Q) → aw ET G d 242 54 [some (.ref 199), some (.int step), some (.int (nI P)), some (.int (nI c)), some (.int (nI 1)), z5, z6] [] 231 sl (mem (rpX X pr w ak) Y) Q := by
    intro c pr spr w ak z5 z6 hc hp hQ
    simp (disch := omega) [w242_54, w242_56, w242_59, w242_60, w242_63, w242_66, w242_67, w242_69, w242_72, w242_73, aw_st, ai_cls, ai_len, ai_p, ai_sw, ai_m, ai_c, ai_at, ai_isI, ai_isJ, ai_isA, ai_ld, ai_1i, ai_2i, ai_2l, ai_cn, ai_j, ai_set, ai_set2, ai_nl, ai_rs, ai_sm, Value.category, hk0, hk1, lits, litb, litm, litm2, List.getElem?_cons_zero, List.getElem?_cons_succ, or_n0, bit_r, fi0, fi1, fi2, fi3, nI_toInt, nI_add, pk_mul, nI_leI, nI_ltI, nI_eq, pk_sub, ib_nI, nI_clamp, va_up_self, va_up_ne, va_up_up, va_up_comm, pk_us, pk_un, upd_up, updL_up, pk_uLs, pk_uLn, b01_1, b01_0, b01_1s, b01_0s, or_b, mm200, mu200, mm201, mu201, mm202, mu202, mm203, mu203, mm204, mu204, mm205, mu205, mm206, mu206, mm207, mu207, mm208, mu208, mm209, mu209, mm210, mu210, mm211, mu211, mm212, mu212, mm213, mu213, mm214, mu214, mm215, mu215, mm216, mu216, mm217, mu217, mm218, mu218, mm219, mu219, mm220, mu220, mm221, mu221, mm222, mu222, mm223, mu223, mm224, mu224, mm225, mu225, mm226, mu226, mm227, mu227, mm228, mu228, mm229, mu229, mm230, mu230, show ¬ 500 ≤ c by omega]
    refine ra_zero 8 0 ak (by omega) (fun q hq => by omega) ?_
    intro ak' h0
    simp (disch := omega) [w242_96, w242_97, aw_st, ai_cls, ai_len, ai_p, ai_sw, ai_m, ai_c, ai_at, ai_isI, ai_isJ, ai_isA, ai_ld, ai_1i, ai_2i, ai_2l, ai_cn, ai_j, ai_set, ai_set2, ai_nl, ai_rs, ai_sm, Value.category, hk0, hk1, lits, litb, litm, litm2, List.getElem?_cons_zero, List.getElem?_cons_succ, or_n0, bit_r, fi0, fi1, fi2, fi3, nI_toInt, nI_add, pk_mul, nI_leI, nI_ltI, nI_eq, pk_sub, ib_nI, nI_clamp, va_up_self, va_up_ne, va_up_up, va_up_comm, pk_us, pk_un, upd_up, updL_up, pk_uLs, pk_uLn, b01_1, b01_0, b01_1s, b01_0s, or_b, mm200, mu200, mm201, mu201, mm202, mu202, mm203, mu203, mm204, mu204, mm205, mu205, mm206, mu206, mm207, mu207, mm208, mu208, mm209, mu209, mm210, mu210, mm211, mu211, mm212, mu212, mm213, mu213, mm214, mu214, mm215, mu215, mm216, mu216, mm217, mu217, mm218, mu218, mm219, mu219, mm220, mu220, mm221, mu221, mm222, mu222, mm223, mu223, mm224, mu224, mm225, mu225, mm226, mu226, mm227, mu227, mm228, mu228, mm229, mu229, mm230, mu230]
    refine rc_loop (l := l) (k := k) (spr := spr) hP hp he hn P 0 w ak' _ (by omega) (fun q hq => by omega) (fun q hq => by rw [h0 q (by omega)]) ?_
    intro w' ak2 z6 h1 h2
    simp (disch := omega) [w242_245, w242_246, aw_st, ai_cls, ai_len, ai_p, ai_sw, ai_m, ai_c, ai_at, ai_isI, ai_isJ, ai_isA, ai_ld, ai_1i, ai_2i, ai_2l, ai_cn, ai_j, ai_set, ai_set2, ai_nl, ai_rs, ai_sm, Value.category, hk0, hk1, lits, litb, litm, litm2, List.getElem?_cons_zero, List.getElem?_cons_succ, or_n0, bit_r, fi0, fi1, fi2, fi3, nI_toInt, nI_add, pk_mul, nI_leI, nI_ltI, nI_eq, pk_sub, ib_nI, nI_clamp, va_up_self, va_up_ne, va_up_up, va_up_comm, pk_us, pk_un, upd_up, updL_up, pk_uLs, pk_uLn, b01_1, b01_0, b01_1s, b01_0s, or_b, mm200, mu200, mm201, mu201, mm202, mu202, mm203, mu203, mm204, mu204, mm205, mu205, mm206, mu206, mm207, mu207, mm208, mu208, mm209, mu209, mm210, mu210, mm211, mu211, mm212, mu212, mm213, mu213, mm214, mu214, mm215, mu215, mm216, mu216, mm217, mu217, mm218, mu218, mm219, mu219, mm220, mu220, mm221, mu221, mm222, mu222, mm223, mu223, mm224, mu224, mm225, mu225, mm226, mu226, mm227, mu227, mm228, mu228, mm229, mu229, mm230, mu230]
    refine rr_loop (l := l) (k := k) (spr := spr) hP he h2 P 0 pr false (by omega) (fun j hj => by rw [if_neg (by omega)]; exact hp j hj) ?_
    intro p2 h3
    exact hQ p2 w' ak2 _ _ h3 h1
  induction r with
  | zero =>
    intro c pr spr w ak z5 z6 hc hp hQ
    have : c = 499 := by omega
    subst this
    refine body 499 pr spr w ak z5 z6 (by omega) hp ?_
    intro p2 w2 a2 z5 z6 h1 h2
    exact fin 500 _ p2 w2 a2 z5 z6 (Or.inr rfl) (by omega) (hQ p2 w2 a2 h1 h2)
  | succ r ih =>
    intro c pr spr w ak z5 z6 hc hp hQ
    refine body c pr spr w ak z5 z6 (by omega) hp ?_
    intro p2 w2 a2 z5 z6 h1 h2
    cases hz : rzR l k P spr 0 P false
    · have e : priR l k P step (r + 1) spr c = (prN l k P step spr, spr, c + 1) := by unfold priR; rw [hz]; rfl
      rw [e] at hQ
      exact fin (c + 1) _ p2 w2 a2 z5 z6 (Or.inl rfl) (by omega) (hQ p2 w2 a2 h1 h2)
    · have e : priR l k P step (r + 1) spr c = priR l k P step r (prN l k P step spr) (c + 1) := by rw [priR.eq_2, hz]; rfl
      rw [e] at hQ
      exact ih (c + 1) p2 _ w2 a2 z5 z6 (by omega) h1 hQ
end PRG
