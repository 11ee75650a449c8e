/-! RINGS: the reference seeks them so -/
section RNR
variable {G : ai_G} {d n sl : Nat} {Q : List Value → Nat → Nat → ai_M → Prop} {P S : Nat} {Y : mY} {X : mX}
def onr (g : Nat → Int32) (k : Nat) : Nat → Nat → Bool
  | _, 0 => false
  | i, r + 1 => if g i = nI k then true else onr g k (i + 1) r
theorem onr_snoc (g : Nat → Int32) (k : Nat) : ∀ (r i : Nat), onr g k i (r + 1) = (onr g k i r || decide (g (i + r) = nI k)) := by
  intro r
  induction r with
  | zero => intro i; simp [onr]
  | succ r ih =>
    intro i
    unfold onr
    by_cases e : g i = nI k
    · simp [e]
    · simp only [e, if_false]
      rw [ih (i + 1)]
      rw [show i + 1 + r = i + (r + 1) by omega]
theorem onr_w {g : Nat → Int32} {k : Nat} (hk : k < 8) : ∀ {w : List Nat}, RW g w → (∀ q ∈ w, q < 8) → onr g k 0 w.length = decide (k ∈ w) := by
  intro w
  induction w with
  | nil => intro _ _; rfl
  | cons a w ih =>
    intro h hq
    rw [List.length_cons, onr_snoc, ih h.2 (fun q h => hq q (by simp [h])), Nat.zero_add, h.1]
    have ha := hq a (by simp)
    have : (nI a = nI k) = (k = a) := propext ⟨fun q => ((nI_eq (by omega) (by omega)).mp q).symm, fun q => by rw [q]⟩
    simp only [this, List.mem_cons]
    by_cases e1 : k = a <;> by_cases e2 : k ∈ w <;> simp [e1, e2]
set_option maxHeartbeats 4000000 in
theorem isOnRow_loop {k N : Nat} (hk : k < 8) (hN : N ≤ 8) : ∀ (r i : Nat), i + r = N → aw ET G d 213 2 [some (.ref 199), some (.int (nI k)), some (.int (nI N)), some (.int (nI i))] [] 231 sl (mem X Y) Q = Q [.int (b01 (onr (X 206) k i r = true))] 231 sl (mem X Y) := by
  intro r
  induction r with
  | zero =>
    intro i hi
    simp (disch := omega) [w213_0, w213_1, w213_2, w213_3, w213_4, w213_7, x213_8, w213_11, w213_12, w213_13, w213_14, w213_17, w213_18, w213_19, w213_22, w213_25, w213_26, rt213, aw_st, ai_cls, ai_len, ai_p, ai_sw, ai_m, ai_c, ai_at, ai_isI, ai_isJ, ai_isA, ai_ld, ai_1i, ai_2i, ai_2l, ai_cn, ai_j, ai_set, ai_set2, ai_nl, ai_rs, ai_sm, Value.category, hk0, hk1, lits, litb, litm, litm2, List.getElem?_cons_zero, List.getElem?_cons_succ, or_n0, bit_r, fi0, fi1, fi2, fi3, nI_toInt, nI_add, pk_mul, nI_leI, nI_ltI, nI_eq, pk_sub, ib_nI, nI_clamp, va_up_self, va_up_ne, va_up_up, va_up_comm, pk_us, pk_un, upd_up, updL_up, pk_uLs, pk_uLn, b01_1, b01_0, b01_1s, b01_0s, or_b, mm200, mu200, mm201, mu201, mm202, mu202, mm203, mu203, mm204, mu204, mm205, mu205, mm206, mu206, mm207, mu207, mm208, mu208, mm209, mu209, mm210, mu210, mm211, mu211, mm212, mu212, mm213, mu213, mm214, mu214, mm215, mu215, mm216, mu216, mm217, mu217, mm218, mu218, mm219, mu219, mm220, mu220, mm221, mu221, mm222, mu222, mm223, mu223, mm224, mu224, mm225, mu225, mm226, mu226, mm227, mu227, mm228, mu228, mm229, mu229, mm230, mu230, show N ≤ i by omega, onr, b01]
  | succ r ih =>
    intro i hi
    rw [w213_2]
    by_cases e : X 206 i = nI k
    · simp (disch := omega) [w213_0, w213_1, w213_3, w213_4, w213_7, x213_8, w213_11, w213_12, w213_13, w213_14, w213_17, w213_18, w213_19, w213_22, w213_25, w213_26, rt213, aw_st, ai_cls, ai_len, ai_p, ai_sw, ai_m, ai_c, ai_at, ai_isI, ai_isJ, ai_isA, ai_ld, ai_1i, ai_2i, ai_2l, ai_cn, ai_j, ai_set, ai_set2, ai_nl, ai_rs, ai_sm, Value.category, hk0, hk1, lits, litb, litm, litm2, List.getElem?_cons_zero, List.getElem?_cons_succ, or_n0, bit_r, fi0, fi1, fi2, fi3, nI_toInt, nI_add, pk_mul, nI_leI, nI_ltI, nI_eq, pk_sub, ib_nI, nI_clamp, va_up_self, va_up_ne, va_up_up, va_up_comm, pk_us, pk_un, upd_up, updL_up, pk_uLs, pk_uLn, b01_1, b01_0, b01_1s, b01_0s, or_b, mm200, mu200, mm201, mu201, mm202, mu202, mm203, mu203, mm204, mu204, mm205, mu205, mm206, mu206, mm207, mu207, mm208, mu208, mm209, mu209, mm210, mu210, mm211, mu211, mm212, mu212, mm213, mu213, mm214, mu214, mm215, mu215, mm216, mu216, mm217, mu217, mm218, mu218, mm219, mu219, mm220, mu220, mm221, mu221, mm222, mu222, mm223, mu223, mm224, mu224, mm225, mu225, mm226, mu226, mm227, mu227, mm228, mu228, mm229, mu229, mm230, mu230, show ¬ N ≤ i by omega, onr, e, b01]
    · simp (disch := omega) [w213_0, w213_1, w213_3, w213_4, w213_7, x213_8, w213_11, w213_12, w213_13, w213_14, w213_17, w213_18, w213_19, w213_22, w213_25, w213_26, rt213, aw_st, ai_cls, ai_len, ai_p, ai_sw, ai_m, ai_c, ai_at, ai_isI, ai_isJ, ai_isA, ai_ld, ai_1i, ai_2i, ai_2l, ai_cn, ai_j, ai_set, ai_set2, ai_nl, ai_rs, ai_sm, Value.category, hk0, hk1, lits, litb, litm, litm2, List.getElem?_cons_zero, List.getElem?_cons_succ, or_n0, bit_r, fi0, fi1, fi2, fi3, nI_toInt, nI_add, pk_mul, nI_leI, nI_ltI, nI_eq, pk_sub, ib_nI, nI_clamp, va_up_self, va_up_ne, va_up_up, va_up_comm, pk_us, pk_un, upd_up, updL_up, pk_uLs, pk_uLn, b01_1, b01_0, b01_1s, b01_0s, or_b, mm200, mu200, mm201, mu201, mm202, mu202, mm203, mu203, mm204, mu204, mm205, mu205, mm206, mu206, mm207, mu207, mm208, mu208, mm209, mu209, mm210, mu210, mm211, mu211, mm212, mu212, mm213, mu213, mm214, mu214, mm215, mu215, mm216, mu216, mm217, mu217, mm218, mu218, mm219, mu219, mm220, mu220, mm221, mu221, mm222, mu222, mm223, mu223, mm224, mu224, mm225, mu225, mm226, mu226, mm227, mu227, mm228, mu228, mm229, mu229, mm230, mu230, show ¬ N ≤ i by omega, onr, e, ih (i + 1) (by omega)]
theorem isOnRow_eq {k N : Nat} (hk : k < 8) (hN : N ≤ 8) : aw ET G d 213 0 [some (.ref 199), some (.int (nI k)), some (.int (nI N)), none] [] 231 sl (mem X Y) Q = Q [.int (b01 (onr (X 206) k 0 N = true))] 231 sl (mem X Y) := by
  have := isOnRow_loop (G := G) (d := d) (sl := sl) (Q := Q) (X := X) (Y := Y) hk hN N 0 (by omega)
  simp (disch := omega) [w213_0, w213_1, aw_st, ai_cls, ai_len, ai_p, ai_sw, ai_m, ai_c, ai_at, ai_isI, ai_isJ, ai_isA, ai_ld, ai_1i, ai_2i, ai_2l, ai_cn, ai_j, ai_set, ai_set2, ai_nl, ai_rs, ai_sm, Value.category, hk0, hk1, lits, litb, litm, litm2, List.getElem?_cons_zero, List.getElem?_cons_succ, or_n0, bit_r, fi0, fi1, fi2, fi3, nI_toInt, nI_add, pk_mul, nI_leI, nI_ltI, nI_eq, pk_sub, ib_nI, nI_clamp, va_up_self, va_up_ne, va_up_up, va_up_comm, pk_us, pk_un, upd_up, updL_up, pk_uLs, pk_uLn, b01_1, b01_0, b01_1s, b01_0s, or_b, mm200, mu200, mm201, mu201, mm202, mu202, mm203, mu203, mm204, mu204, mm205, mu205, mm206, mu206, mm207, mu207, mm208, mu208, mm209, mu209, mm210, mu210, mm211, mu211, mm212, mu212, mm213, mu213, mm214, mu214, mm215, mu215, mm216, mu216, mm217, mu217, mm218, mu218, mm219, mu219, mm220, mu220, mm221, mu221, mm222, mu222, mm223, mu223, mm224, mu224, mm225, mu225, mm226, mu226, mm227, mu227, mm228, mu228, mm229, mu229, mm230, mu230]
  exact Iff.of_eq this
set_option maxHeartbeats 8000000 in
set_option maxRecDepth 8000 in
theorem finds_level {f : Nat → Int32} {fr many : Nat} (hP : P ≤ 8) (k1 : X 201 0 = nI P) (hf : ∀ a b, a < 8 → b < 8 → X 201 (177 + 8 * a + b) = f (a * 8 + b)) (hB : ∀ i, i < 64 → ∃ v, v < 2 ^ 30 ∧ f i = nI v) (hfr : fr < P) (hm : many ≤ 8) : ∀ (r : Nat) (a : Nat) (w' : List Nat) (c q : Nat) (g : Nat → Int32), w'.length + 1 + (r + 1) = many → (∀ x ∈ a :: w', x < P) → q + c = P → fr + 1 ≤ q → RW g (a :: w') → g (w'.length + 1) = nI (q - 1) → (∀ z g', fsN (srG f P fr r (a :: w')) q c = some z → RW g' z → Q [.int 1] 231 sl (mem (va_up X 206 g') Y)) → (fsN (srG f P fr r (a :: w')) q c = none → ∀ g', RW g' (a :: w') → aw ET G (d + 1) 212 16 [some (.ref 199), some (.int (nI fr)), some (.int (nI many)), some (.int (nI w'.length))] [] 231 sl (mem (va_up X 206 g') Y) Q) → aw ET G (d + 1) 212 16 [some (.ref 199), some (.int (nI fr)), some (.int (nI many)), some (.int (nI (w'.length + 1)))] [] 231 sl (mem (va_up X 206 g) Y) Q := by
  intro r
  induction r with
  | zero =>
    intro a w' c
    induction c with
    | zero =>
      intro q g hl ha hq hq1 hw hg hS hN
      have hh := hN rfl (upd g (w'.length + 1) (nI q)) (RW_upd hw (by simp))
      have ed : nI (w'.length + 1) + -nI 1 = nI w'.length := pk_m1 _
      have eq1 : q - 1 + 1 = q := by omega
      rw [w212_16]
      simp (disch := omega) [x212_1, w212_4, w212_5, w212_6, w212_7, w212_8, w212_9, x212_10, w212_13, w212_14, w212_15, w212_17, w212_20, x212_21, w212_24, w212_25, w212_26, w212_27, w212_28, w212_29, w212_30, x212_31, w212_34, w212_35, w212_36, x212_37, w212_40, w212_41, w212_42, w212_45, w212_48, w212_51, w212_52, x212_53, w212_56, w212_57, w212_58, x212_59, w212_62, w212_65, x212_66, w212_69, w212_72, w212_74, x212_75, w212_78, w212_79, w212_80, w212_81, w212_82, w212_83, w212_84, x212_85, w212_88, w212_89, w212_90, w212_91, w212_92, w212_95, w212_98, w212_99, w212_100, w212_101, w212_102, w212_105, w212_108, x212_109, w212_112, w212_113, w212_114, w212_115, w212_118, x212_119, w212_122, w212_125, w212_127, x212_128, w212_131, w212_132, w212_133, w212_134, w212_135, w212_136, w212_137, w212_138, w212_141, w212_142, w212_143, w212_144, rt212, aw_st, ai_cls, ai_len, ai_p, ai_sw, ai_m, ai_c, ai_at, ai_isI, ai_isJ, ai_isA, ai_ld, ai_1i, ai_2i, ai_2l, ai_cn, ai_j, ai_set, ai_set2, ai_nl, ai_rs, ai_sm, Value.category, hk0, hk1, lits, litb, litm2, List.getElem?_cons_zero, List.getElem?_cons_succ, or_n0, bit_r, fi0, fi1, fi2, fi3, nI_toInt, nI_add, pk_mul, nI_leI, nI_ltI, nI_eq, pk_sub, ib_nI, nI_clamp, va_up_self, va_up_ne, va_up_up, va_up_comm, pk_us, pk_un, upd_up, updL_up, pk_uLs, pk_uLn, b01_1, b01_0, b01_1s, b01_0s, or_b, mm200, mu200, mm201, mu201, mm202, mu202, mm203, mu203, mm204, mu204, mm205, mu205, mm206, mu206, mm207, mu207, mm208, mu208, mm209, mu209, mm210, mu210, mm211, mu211, mm212, mu212, mm213, mu213, mm214, mu214, mm215, mu215, mm216, mu216, mm217, mu217, mm218, mu218, mm219, mu219, mm220, mu220, mm221, mu221, mm222, mu222, mm223, mu223, mm224, mu224, mm225, mu225, mm226, mu226, mm227, mu227, mm228, mu228, mm229, mu229, mm230, mu230, k1, hg, eq1, ed, show P ≤ q by omega, show ¬ q < P by omega, show ¬ w'.length + 1 ≤ 0 by omega]
      exact hh
    | succ c ihc =>
      intro q g hl ha hq hq1 hw hg hS hN
      have haP := ha a (by simp)
      have eq1 : q - 1 + 1 = q := by omega
      have hw2 : RW (upd g (w'.length + 1) (nI q)) (a :: w') := RW_upd hw (by simp)
      have hon : onr (upd g (w'.length + 1) (nI q)) q 0 (w'.length + 1) = decide (q ∈ a :: w') := onr_w (by omega) hw2 (fun x hx => by have := ha x hx; omega)
      have hwa : upd g (w'.length + 1) (nI q) w'.length = nI a := hw2.1
      have hga : g w'.length = nI a := hw.1
      rw [w212_16]
      have next : srG f P fr 0 (a :: w') q = none → aw ET G (d + 1) 212 16 [some (.ref 199), some (.int (nI fr)), some (.int (nI many)), some (.int (nI (w'.length + 1)))] [] 231 sl (mem (va_up X 206 (upd g (w'.length + 1) (nI q))) Y) Q := by
        intro e
        refine ihc (q + 1) _ hl ha (by omega) (by omega) hw2 (by simp [upd]) ?_ ?_
        · intro z g' e1 e2
          exact hS z g' (by unfold fsN; rw [e]; exact e1) e2
        · intro e1
          exact hN (by unfold fsN; rw [e]; exact e1)
      by_cases hm1 : q ∈ a :: w'
      · rw [decide_eq_true hm1] at hon
        simp (disch := omega) [x212_1, w212_4, w212_5, w212_6, w212_7, w212_8, w212_9, x212_10, w212_13, w212_14, w212_15, w212_17, w212_20, x212_21, w212_24, w212_25, w212_26, w212_27, w212_28, w212_29, w212_30, x212_31, w212_34, w212_35, w212_36, x212_37, w212_40, w212_41, w212_42, w212_45, w212_48, w212_51, w212_52, x212_53, w212_56, w212_57, w212_58, x212_59, w212_62, w212_65, x212_66, w212_69, w212_72, w212_74, x212_75, w212_78, w212_79, w212_80, w212_81, w212_82, w212_83, w212_84, x212_85, w212_88, w212_89, w212_90, w212_91, w212_92, w212_95, w212_98, w212_99, w212_100, w212_101, w212_102, w212_105, w212_108, x212_109, w212_112, w212_113, w212_114, w212_115, w212_118, x212_119, w212_122, w212_125, w212_127, x212_128, w212_131, w212_132, w212_133, w212_134, w212_135, w212_136, w212_137, w212_138, w212_141, w212_142, w212_143, w212_144, rt212, aw_st, ai_cls, ai_len, ai_p, ai_sw, ai_m, ai_c, ai_at, ai_isI, ai_isJ, ai_isA, ai_ld, ai_1i, ai_2i, ai_2l, ai_cn, ai_j, ai_set, ai_set2, ai_nl, ai_rs, ai_sm, Value.category, hk0, hk1, lits, litb, litm, litm2, List.getElem?_cons_zero, List.getElem?_cons_succ, or_n0, bit_r, fi0, fi1, fi2, fi3, nI_toInt, nI_add, pk_mul, nI_leI, nI_ltI, nI_eq, pk_sub, ib_nI, nI_clamp, va_up_self, va_up_ne, va_up_up, va_up_comm, pk_us, pk_un, upd_up, updL_up, pk_uLs, pk_uLn, b01_1, b01_0, b01_1s, b01_0s, or_b, mm200, mu200, mm201, mu201, mm202, mu202, mm203, mu203, mm204, mu204, mm205, mu205, mm206, mu206, mm207, mu207, mm208, mu208, mm209, mu209, mm210, mu210, mm211, mu211, mm212, mu212, mm213, mu213, mm214, mu214, mm215, mu215, mm216, mu216, mm217, mu217, mm218, mu218, mm219, mu219, mm220, mu220, mm221, mu221, mm222, mu222, mm223, mu223, mm224, mu224, mm225, mu225, mm226, mu226, mm227, mu227, mm228, mu228, mm229, mu229, mm230, mu230, k1, hg, eq1, isOnRow_eq, hon, show q < P by omega, show ¬ P ≤ q by omega, show ¬ w'.length + 1 ≤ 0 by omega, b01]
        exact next (srG_in hm1)
      · rw [decide_eq_false hm1] at hon
        obtain ⟨v, hv, ev⟩ := hB (a * 8 + q) (by omega)
        by_cases h0 : v = 0
        · have e0 : f (a * 8 + q) = nI 0 := by rw [ev, h0]
          simp (disch := omega) [x212_1, w212_4, w212_5, w212_6, w212_7, w212_8, w212_9, x212_10, w212_13, w212_14, w212_15, w212_17, w212_20, x212_21, w212_24, w212_25, w212_26, w212_27, w212_28, w212_29, w212_30, x212_31, w212_34, w212_35, w212_36, x212_37, w212_40, w212_41, w212_42, w212_45, w212_48, w212_51, w212_52, x212_53, w212_56, w212_57, w212_58, x212_59, w212_62, w212_65, x212_66, w212_69, w212_72, w212_74, x212_75, w212_78, w212_79, w212_80, w212_81, w212_82, w212_83, w212_84, x212_85, w212_88, w212_89, w212_90, w212_91, w212_92, w212_95, w212_98, w212_99, w212_100, w212_101, w212_102, w212_105, w212_108, x212_109, w212_112, w212_113, w212_114, w212_115, w212_118, x212_119, w212_122, w212_125, w212_127, x212_128, w212_131, w212_132, w212_133, w212_134, w212_135, w212_136, w212_137, w212_138, w212_141, w212_142, w212_143, w212_144, rt212, aw_st, ai_cls, ai_len, ai_p, ai_sw, ai_m, ai_c, ai_at, ai_isI, ai_isJ, ai_isA, ai_ld, ai_1i, ai_2i, ai_2l, ai_cn, ai_j, ai_set, ai_set2, ai_nl, ai_rs, ai_sm, Value.category, hk0, hk1, lits, litb, litm, litm2, List.getElem?_cons_zero, List.getElem?_cons_succ, or_n0, bit_r, fi0, fi1, fi2, fi3, nI_toInt, nI_add, pk_mul, nI_leI, nI_ltI, nI_eq, pk_sub, ib_nI, nI_clamp, va_up_self, va_up_ne, va_up_up, va_up_comm, pk_us, pk_un, upd_up, updL_up, pk_uLs, pk_uLn, b01_1, b01_0, b01_1s, b01_0s, or_b, mm200, mu200, mm201, mu201, mm202, mu202, mm203, mu203, mm204, mu204, mm205, mu205, mm206, mu206, mm207, mu207, mm208, mu208, mm209, mu209, mm210, mu210, mm211, mu211, mm212, mu212, mm213, mu213, mm214, mu214, mm215, mu215, mm216, mu216, mm217, mu217, mm218, mu218, mm219, mu219, mm220, mu220, mm221, mu221, mm222, mu222, mm223, mu223, mm224, mu224, mm225, mu225, mm226, mu226, mm227, mu227, mm228, mu228, mm229, mu229, mm230, mu230, k1, hg, hga, eq1, isOnRow_eq, hon, hf, e0, show q < P by omega, show ¬ P ≤ q by omega, show ¬ w'.length + 1 ≤ 0 by omega, b01]
          exact next (srG_no (by rw [e0]; decide))
        · have g0 : nI 0 < f (a * 8 + q) := by rw [ev]; exact nI_lt (by omega) (by omega)
          have n0 : ¬ f (a * 8 + q) = nI 0 := by rw [ev, nI_eq (by omega) (by omega)]; exact h0
          have eG := srG_y (r := 0) (fr := fr) (P := P) hm1 g0
          rcases lt_or (nI 0) (f (q * 8 + fr)) with ⟨g1, g2⟩ | ⟨g1, g2⟩
          · have es : srch f P fr 0 (q :: a :: w') = some (q :: a :: w') := if_pos g1
            have := hS (q :: a :: w') (upd g (w'.length + 1) (nI q)) (by unfold fsN; rw [eG, es]) ⟨by simp [upd], hw2⟩
            simp (disch := omega) [x212_1, w212_4, w212_5, w212_6, w212_7, w212_8, w212_9, x212_10, w212_13, w212_14, w212_15, w212_17, w212_20, x212_21, w212_24, w212_25, w212_26, w212_27, w212_28, w212_29, w212_30, x212_31, w212_34, w212_35, w212_36, x212_37, w212_40, w212_41, w212_42, w212_45, w212_48, w212_51, w212_52, x212_53, w212_56, w212_57, w212_58, x212_59, w212_62, w212_65, x212_66, w212_69, w212_72, w212_74, x212_75, w212_78, w212_79, w212_80, w212_81, w212_82, w212_83, w212_84, x212_85, w212_88, w212_89, w212_90, w212_91, w212_92, w212_95, w212_98, w212_99, w212_100, w212_101, w212_102, w212_105, w212_108, x212_109, w212_112, w212_113, w212_114, w212_115, w212_118, x212_119, w212_122, w212_125, w212_127, x212_128, w212_131, w212_132, w212_133, w212_134, w212_135, w212_136, w212_137, w212_138, w212_141, w212_142, w212_143, w212_144, rt212, aw_st, ai_cls, ai_len, ai_p, ai_sw, ai_m, ai_c, ai_at, ai_isI, ai_isJ, ai_isA, ai_ld, ai_1i, ai_2i, ai_2l, ai_cn, ai_j, ai_set, ai_set2, ai_nl, ai_rs, ai_sm, Value.category, hk0, hk1, lits, litb, litm, litm2, List.getElem?_cons_zero, List.getElem?_cons_succ, or_n0, bit_r, fi0, fi1, fi2, fi3, nI_toInt, nI_add, pk_mul, nI_leI, nI_ltI, nI_eq, pk_sub, ib_nI, nI_clamp, va_up_self, va_up_ne, va_up_up, va_up_comm, pk_us, pk_un, upd_up, updL_up, pk_uLs, pk_uLn, b01_1, b01_0, b01_1s, b01_0s, or_b, mm200, mu200, mm201, mu201, mm202, mu202, mm203, mu203, mm204, mu204, mm205, mu205, mm206, mu206, mm207, mu207, mm208, mu208, mm209, mu209, mm210, mu210, mm211, mu211, mm212, mu212, mm213, mu213, mm214, mu214, mm215, mu215, mm216, mu216, mm217, mu217, mm218, mu218, mm219, mu219, mm220, mu220, mm221, mu221, mm222, mu222, mm223, mu223, mm224, mu224, mm225, mu225, mm226, mu226, mm227, mu227, mm228, mu228, mm229, mu229, mm230, mu230, k1, hg, hga, eq1, isOnRow_eq, hon, hf, n0, g1, g2, show q < P by omega, show ¬ P ≤ q by omega, show ¬ w'.length + 1 ≤ 0 by omega, show many - 1 ≤ w'.length + 1 by omega, b01]
            exact this
          · have es : srch f P fr 0 (q :: a :: w') = none := if_neg g1
            simp (disch := omega) [x212_1, w212_4, w212_5, w212_6, w212_7, w212_8, w212_9, x212_10, w212_13, w212_14, w212_15, w212_17, w212_20, x212_21, w212_24, w212_25, w212_26, w212_27, w212_28, w212_29, w212_30, x212_31, w212_34, w212_35, w212_36, x212_37, w212_40, w212_41, w212_42, w212_45, w212_48, w212_51, w212_52, x212_53, w212_56, w212_57, w212_58, x212_59, w212_62, w212_65, x212_66, w212_69, w212_72, w212_74, x212_75, w212_78, w212_79, w212_80, w212_81, w212_82, w212_83, w212_84, x212_85, w212_88, w212_89, w212_90, w212_91, w212_92, w212_95, w212_98, w212_99, w212_100, w212_101, w212_102, w212_105, w212_108, x212_109, w212_112, w212_113, w212_114, w212_115, w212_118, x212_119, w212_122, w212_125, w212_127, x212_128, w212_131, w212_132, w212_133, w212_134, w212_135, w212_136, w212_137, w212_138, w212_141, w212_142, w212_143, w212_144, rt212, aw_st, ai_cls, ai_len, ai_p, ai_sw, ai_m, ai_c, ai_at, ai_isI, ai_isJ, ai_isA, ai_ld, ai_1i, ai_2i, ai_2l, ai_cn, ai_j, ai_set, ai_set2, ai_nl, ai_rs, ai_sm, Value.category, hk0, hk1, lits, litb, litm, litm2, List.getElem?_cons_zero, List.getElem?_cons_succ, or_n0, bit_r, fi0, fi1, fi2, fi3, nI_toInt, nI_add, pk_mul, nI_leI, nI_ltI, nI_eq, pk_sub, ib_nI, nI_clamp, va_up_self, va_up_ne, va_up_up, va_up_comm, pk_us, pk_un, upd_up, updL_up, pk_uLs, pk_uLn, b01_1, b01_0, b01_1s, b01_0s, or_b, mm200, mu200, mm201, mu201, mm202, mu202, mm203, mu203, mm204, mu204, mm205, mu205, mm206, mu206, mm207, mu207, mm208, mu208, mm209, mu209, mm210, mu210, mm211, mu211, mm212, mu212, mm213, mu213, mm214, mu214, mm215, mu215, mm216, mu216, mm217, mu217, mm218, mu218, mm219, mu219, mm220, mu220, mm221, mu221, mm222, mu222, mm223, mu223, mm224, mu224, mm225, mu225, mm226, mu226, mm227, mu227, mm228, mu228, mm229, mu229, mm230, mu230, k1, hg, hga, eq1, isOnRow_eq, hon, hf, n0, g1, g2, show q < P by omega, show ¬ P ≤ q by omega, show ¬ w'.length + 1 ≤ 0 by omega, show many - 1 ≤ w'.length + 1 by omega, b01]
            exact next (by rw [eG, es])
  | succ r ih =>
    intro a w' c
    induction c with
    | zero =>
      intro q g hl ha hq hq1 hw hg hS hN
      have hh := hN rfl (upd g (w'.length + 1) (nI q)) (RW_upd hw (by simp))
      have ed : nI (w'.length + 1) + -nI 1 = nI w'.length := pk_m1 _
      have eq1 : q - 1 + 1 = q := by omega
      rw [w212_16]
      simp (disch := omega) [x212_1, w212_4, w212_5, w212_6, w212_7, w212_8, w212_9, x212_10, w212_13, w212_14, w212_15, w212_17, w212_20, x212_21, w212_24, w212_25, w212_26, w212_27, w212_28, w212_29, w212_30, x212_31, w212_34, w212_35, w212_36, x212_37, w212_40, w212_41, w212_42, w212_45, w212_48, w212_51, w212_52, x212_53, w212_56, w212_57, w212_58, x212_59, w212_62, w212_65, x212_66, w212_69, w212_72, w212_74, x212_75, w212_78, w212_79, w212_80, w212_81, w212_82, w212_83, w212_84, x212_85, w212_88, w212_89, w212_90, w212_91, w212_92, w212_95, w212_98, w212_99, w212_100, w212_101, w212_102, w212_105, w212_108, x212_109, w212_112, w212_113, w212_114, w212_115, w212_118, x212_119, w212_122, w212_125, w212_127, x212_128, w212_131, w212_132, w212_133, w212_134, w212_135, w212_136, w212_137, w212_138, w212_141, w212_142, w212_143, w212_144, rt212, aw_st, ai_cls, ai_len, ai_p, ai_sw, ai_m, ai_c, ai_at, ai_isI, ai_isJ, ai_isA, ai_ld, ai_1i, ai_2i, ai_2l, ai_cn, ai_j, ai_set, ai_set2, ai_nl, ai_rs, ai_sm, Value.category, hk0, hk1, lits, litb, litm2, List.getElem?_cons_zero, List.getElem?_cons_succ, or_n0, bit_r, fi0, fi1, fi2, fi3, nI_toInt, nI_add, pk_mul, nI_leI, nI_ltI, nI_eq, pk_sub, ib_nI, nI_clamp, va_up_self, va_up_ne, va_up_up, va_up_comm, pk_us, pk_un, upd_up, updL_up, pk_uLs, pk_uLn, b01_1, b01_0, b01_1s, b01_0s, or_b, mm200, mu200, mm201, mu201, mm202, mu202, mm203, mu203, mm204, mu204, mm205, mu205, mm206, mu206, mm207, mu207, mm208, mu208, mm209, mu209, mm210, mu210, mm211, mu211, mm212, mu212, mm213, mu213, mm214, mu214, mm215, mu215, mm216, mu216, mm217, mu217, mm218, mu218, mm219, mu219, mm220, mu220, mm221, mu221, mm222, mu222, mm223, mu223, mm224, mu224, mm225, mu225, mm226, mu226, mm227, mu227, mm228, mu228, mm229, mu229, mm230, mu230, k1, hg, eq1, ed, show P ≤ q by omega, show ¬ q < P by omega, show ¬ w'.length + 1 ≤ 0 by omega]
      exact hh
    | succ c ihc =>
      intro q g hl ha hq hq1 hw hg hS hN
      have haP := ha a (by simp)
      have eq1 : q - 1 + 1 = q := by omega
      have hw2 : RW (upd g (w'.length + 1) (nI q)) (a :: w') := RW_upd hw (by simp)
      have hon : onr (upd g (w'.length + 1) (nI q)) q 0 (w'.length + 1) = decide (q ∈ a :: w') := onr_w (by omega) hw2 (fun x hx => by have := ha x hx; omega)
      have hga : g w'.length = nI a := hw.1
      rw [w212_16]
      have next : srG f P fr (r + 1) (a :: w') q = none → ∀ g', RW g' (a :: w') → g' (w'.length + 1) = nI q → aw ET G (d + 1) 212 16 [some (.ref 199), some (.int (nI fr)), some (.int (nI many)), some (.int (nI (w'.length + 1)))] [] 231 sl (mem (va_up X 206 g') Y) Q := by
        intro e g' hw' hg'
        refine ihc (q + 1) g' hl ha (by omega) (by omega) hw' (by rw [hg']; rfl) ?_ ?_
        · intro z g' e1 e2
          exact hS z g' (by unfold fsN; rw [e]; exact e1) e2
        · intro e1
          exact hN (by unfold fsN; rw [e]; exact e1)
      by_cases hm1 : q ∈ a :: w'
      · rw [decide_eq_true hm1] at hon
        simp (disch := omega) [x212_1, w212_4, w212_5, w212_6, w212_7, w212_8, w212_9, x212_10, w212_13, w212_14, w212_15, w212_17, w212_20, x212_21, w212_24, w212_25, w212_26, w212_27, w212_28, w212_29, w212_30, x212_31, w212_34, w212_35, w212_36, x212_37, w212_40, w212_41, w212_42, w212_45, w212_48, w212_51, w212_52, x212_53, w212_56, w212_57, w212_58, x212_59, w212_62, w212_65, x212_66, w212_69, w212_72, w212_74, x212_75, w212_78, w212_79, w212_80, w212_81, w212_82, w212_83, w212_84, x212_85, w212_88, w212_89, w212_90, w212_91, w212_92, w212_95, w212_98, w212_99, w212_100, w212_101, w212_102, w212_105, w212_108, x212_109, w212_112, w212_113, w212_114, w212_115, w212_118, x212_119, w212_122, w212_125, w212_127, x212_128, w212_131, w212_132, w212_133, w212_134, w212_135, w212_136, w212_137, w212_138, w212_141, w212_142, w212_143, w212_144, rt212, aw_st, ai_cls, ai_len, ai_p, ai_sw, ai_m, ai_c, ai_at, ai_isI, ai_isJ, ai_isA, ai_ld, ai_1i, ai_2i, ai_2l, ai_cn, ai_j, ai_set, ai_set2, ai_nl, ai_rs, ai_sm, Value.category, hk0, hk1, lits, litb, litm, litm2, List.getElem?_cons_zero, List.getElem?_cons_succ, or_n0, bit_r, fi0, fi1, fi2, fi3, nI_toInt, nI_add, pk_mul, nI_leI, nI_ltI, nI_eq, pk_sub, ib_nI, nI_clamp, va_up_self, va_up_ne, va_up_up, va_up_comm, pk_us, pk_un, upd_up, updL_up, pk_uLs, pk_uLn, b01_1, b01_0, b01_1s, b01_0s, or_b, mm200, mu200, mm201, mu201, mm202, mu202, mm203, mu203, mm204, mu204, mm205, mu205, mm206, mu206, mm207, mu207, mm208, mu208, mm209, mu209, mm210, mu210, mm211, mu211, mm212, mu212, mm213, mu213, mm214, mu214, mm215, mu215, mm216, mu216, mm217, mu217, mm218, mu218, mm219, mu219, mm220, mu220, mm221, mu221, mm222, mu222, mm223, mu223, mm224, mu224, mm225, mu225, mm226, mu226, mm227, mu227, mm228, mu228, mm229, mu229, mm230, mu230, k1, hg, eq1, isOnRow_eq, hon, show q < P by omega, show ¬ P ≤ q by omega, show ¬ w'.length + 1 ≤ 0 by omega, b01]
        exact next (srG_in hm1) _ hw2 (by simp [upd])
      · rw [decide_eq_false hm1] at hon
        obtain ⟨v, hv, ev⟩ := hB (a * 8 + q) (by omega)
        by_cases h0 : v = 0
        · have e0 : f (a * 8 + q) = nI 0 := by rw [ev, h0]
          simp (disch := omega) [x212_1, w212_4, w212_5, w212_6, w212_7, w212_8, w212_9, x212_10, w212_13, w212_14, w212_15, w212_17, w212_20, x212_21, w212_24, w212_25, w212_26, w212_27, w212_28, w212_29, w212_30, x212_31, w212_34, w212_35, w212_36, x212_37, w212_40, w212_41, w212_42, w212_45, w212_48, w212_51, w212_52, x212_53, w212_56, w212_57, w212_58, x212_59, w212_62, w212_65, x212_66, w212_69, w212_72, w212_74, x212_75, w212_78, w212_79, w212_80, w212_81, w212_82, w212_83, w212_84, x212_85, w212_88, w212_89, w212_90, w212_91, w212_92, w212_95, w212_98, w212_99, w212_100, w212_101, w212_102, w212_105, w212_108, x212_109, w212_112, w212_113, w212_114, w212_115, w212_118, x212_119, w212_122, w212_125, w212_127, x212_128, w212_131, w212_132, w212_133, w212_134, w212_135, w212_136, w212_137, w212_138, w212_141, w212_142, w212_143, w212_144, rt212, aw_st, ai_cls, ai_len, ai_p, ai_sw, ai_m, ai_c, ai_at, ai_isI, ai_isJ, ai_isA, ai_ld, ai_1i, ai_2i, ai_2l, ai_cn, ai_j, ai_set, ai_set2, ai_nl, ai_rs, ai_sm, Value.category, hk0, hk1, lits, litb, litm, litm2, List.getElem?_cons_zero, List.getElem?_cons_succ, or_n0, bit_r, fi0, fi1, fi2, fi3, nI_toInt, nI_add, pk_mul, nI_leI, nI_ltI, nI_eq, pk_sub, ib_nI, nI_clamp, va_up_self, va_up_ne, va_up_up, va_up_comm, pk_us, pk_un, upd_up, updL_up, pk_uLs, pk_uLn, b01_1, b01_0, b01_1s, b01_0s, or_b, mm200, mu200, mm201, mu201, mm202, mu202, mm203, mu203, mm204, mu204, mm205, mu205, mm206, mu206, mm207, mu207, mm208, mu208, mm209, mu209, mm210, mu210, mm211, mu211, mm212, mu212, mm213, mu213, mm214, mu214, mm215, mu215, mm216, mu216, mm217, mu217, mm218, mu218, mm219, mu219, mm220, mu220, mm221, mu221, mm222, mu222, mm223, mu223, mm224, mu224, mm225, mu225, mm226, mu226, mm227, mu227, mm228, mu228, mm229, mu229, mm230, mu230, k1, hg, hga, eq1, isOnRow_eq, hon, hf, e0, show q < P by omega, show ¬ P ≤ q by omega, show ¬ w'.length + 1 ≤ 0 by omega, b01]
          exact next (srG_no (by rw [e0]; decide)) _ hw2 (by simp [upd])
        · have g0 : nI 0 < f (a * 8 + q) := by rw [ev]; exact nI_lt (by omega) (by omega)
          have n0 : ¬ f (a * 8 + q) = nI 0 := by rw [ev, nI_eq (by omega) (by omega)]; exact h0
          have eG := srG_y (r := r + 1) (fr := fr) (P := P) hm1 g0
          simp (disch := omega) [x212_1, w212_4, w212_5, w212_6, w212_7, w212_8, w212_9, x212_10, w212_13, w212_14, w212_15, w212_17, w212_20, x212_21, w212_24, w212_25, w212_26, w212_27, w212_28, w212_29, w212_30, x212_31, w212_34, w212_35, w212_36, x212_37, w212_40, w212_41, w212_42, w212_45, w212_48, w212_51, w212_52, x212_53, w212_56, w212_57, w212_58, x212_59, w212_62, w212_65, x212_66, w212_69, w212_72, w212_74, x212_75, w212_78, w212_79, w212_80, w212_81, w212_82, w212_83, w212_84, x212_85, w212_88, w212_89, w212_90, w212_91, w212_92, w212_95, w212_98, w212_99, w212_100, w212_101, w212_102, w212_105, w212_108, x212_109, w212_112, w212_113, w212_114, w212_115, w212_118, x212_119, w212_122, w212_125, w212_127, x212_128, w212_131, w212_132, w212_133, w212_134, w212_135, w212_136, w212_137, w212_138, w212_141, w212_142, w212_143, w212_144, rt212, aw_st, ai_cls, ai_len, ai_p, ai_sw, ai_m, ai_c, ai_at, ai_isI, ai_isJ, ai_isA, ai_ld, ai_1i, ai_2i, ai_2l, ai_cn, ai_j, ai_set, ai_set2, ai_nl, ai_rs, ai_sm, Value.category, hk0, hk1, lits, litb, litm, litm2, List.getElem?_cons_zero, List.getElem?_cons_succ, or_n0, bit_r, fi0, fi1, fi2, fi3, nI_toInt, nI_add, pk_mul, nI_leI, nI_ltI, nI_eq, pk_sub, ib_nI, nI_clamp, va_up_self, va_up_ne, va_up_up, va_up_comm, pk_us, pk_un, upd_up, updL_up, pk_uLs, pk_uLn, b01_1, b01_0, b01_1s, b01_0s, or_b, mm200, mu200, mm201, mu201, mm202, mu202, mm203, mu203, mm204, mu204, mm205, mu205, mm206, mu206, mm207, mu207, mm208, mu208, mm209, mu209, mm210, mu210, mm211, mu211, mm212, mu212, mm213, mu213, mm214, mu214, mm215, mu215, mm216, mu216, mm217, mu217, mm218, mu218, mm219, mu219, mm220, mu220, mm221, mu221, mm222, mu222, mm223, mu223, mm224, mu224, mm225, mu225, mm226, mu226, mm227, mu227, mm228, mu228, mm229, mu229, mm230, mu230, k1, hg, hga, eq1, isOnRow_eq, hon, hf, n0, show q < P by omega, show ¬ P ≤ q by omega, show ¬ w'.length + 1 ≤ 0 by omega, show ¬ many - 1 ≤ w'.length + 1 by omega, b01]
          have hl2 : (a :: w').length + 1 = w'.length + 1 + 1 := by simp
          refine ih q (a :: w') (P - (fr + 1)) (fr + 1) (upd (upd g (w'.length + 1) (nI q)) (w'.length + 1 + 1) (nI fr)) (by simp; omega) ?_ (by omega) (by omega) ?_ (by simp [upd]) ?_ ?_
          · intro x hx
            rcases List.mem_cons.mp hx with rfl | hx
            · omega
            · exact ha x hx
          · exact RW_upd (w := q :: a :: w') ⟨by simp [upd], hw2⟩ (by simp)
          · intro z g' e1 e2
            exact hS z g' (by unfold fsN; rw [eG, show srch f P fr (r + 1) (q :: a :: w') = some z from e1]) e2
          · intro e1 g' hw3
            exact next (by rw [eG]; exact e1) g' hw3.2 hw3.1
end RNR
