/-! A SENTENCE's text: the reference, an operand -/
section RSC
variable {G : ai_G} {d sl : Nat} {Q : List Value → Nat → Nat → ai_M → Prop} {Y : mY} {X : mX} {c : TC} {i P S o : Nat} {nm : Nat → List Nat} {L : List SC} {s : List Nat} {w : Bool}
theorem Gnm (hR : ∀ k, k < 21 → Y 205 k = kl k) (h : RDR c i (X 199) (Y 199)) (ok : OKr c X) (hi : i ≤ c.2.1) : aw ET G d 192 0 [some (.ref 199), none, none] [] 231 sl (mem X Y) Q = Q [.int (b01 (cM c i = true))] 231 sl (mem X Y) := by
  have := rname_eq (G := G) (d := d) (sl := sl) (Q := Q) (X := X) (Y := Y) (F := X 199) (W := Y 199) hR h ok hi
  rw [va_id, va_id] at this
  exact this
theorem Gfind {nm : Nat → List Nat} {fr N : Nat} {u : List Nat} (hN : N ≤ 8) (hfr : fr ≤ 24) (hw : WD u) (hv : Y 199 17 = lN (v8 u)) (hn : ∀ q, q < N → Y 204 (fr + q) = lN (v8 (nm q)) ∧ WD (nm q)) : aw ET G d 193 0 [some (.ref 199), some (.int (nI fr)), some (.int (nI N)), none] [] 231 sl (mem X Y) Q = Q [.int (oI (fnd nm u N 0))] 231 sl (mem X Y) := by
  have := rfind_eq (G := G) (d := d) (sl := sl) (Q := Q) (X := X) (Y := Y) (W := Y 199) hN hfr hw hv hn
  rw [va_id] at this
  exact this
theorem KZ_199 {f : Nat → Int32} (h : ∀ j, ¬ (56 ≤ j ∧ j ≤ 60) → f j = X 199 j) : KZ X (va_up X 199 f) := ⟨fun k a _ _ => va_up_ne _ _ a, fun j a => by rw [va_up_self]; exact h j a⟩
theorem RNM.kx {X' : mX} {Y' : mY} (h : RNM X Y nm P S) (f : KX X Y X' Y') : RNM X' Y' nm P S := RNM.cg h (f.1 201 (by omega) (by omega) (by omega)) (f.2.1 204 (by omega))
theorem fnd_oI {nm : Nat → List Nat} {u : List Nat} {N : Nat} : fnd nm u N 0 = none ∨ ∃ k, k < N ∧ fnd nm u N 0 = some k := by
  cases e : fnd nm u N 0 with
  | none => exact Or.inl rfl
  | some k =>
    have := fnd_lt N 0 k e
    exact Or.inr ⟨k, by omega, rfl⟩
theorem rdr_cg2 {Y' : mY} {X' : mX} (h : RDR c i (X 199) (Y 199)) (z : KZ X X') (e : Y' 199 = Y 199) : RDR c i (X' 199) (Y' 199) := by rw [e]; exact KZ_rdr h z
/-- behind the word of a leaf that wants a name -/
theorem name_leaf {lf v fr N : Nat} {nmx : Nat → List Nat} (hN8 : N ≤ 8) (hfr : fr = 8 ∧ lf = 3 ∧ v = 1 ∨ fr = 0 ∧ lf = 4 ∧ v = 0) (y : Nat) (hy : lf = rkc y) (hR : ∀ k, k < 21 → Y 205 k = kl k) (hn : ∀ q, q < N → Y 204 (fr + q) = lN (v8 (nmx q)) ∧ WD (nmx q)) (h01 : X 201 v = nI N) (hs : SR X L s (o + 1) true) (h : RDR c i (X 199) (Y 199)) (ok : OKr c X) (hi : i ≤ c.2.1) (hl : L.length < 44) (hQ1 : ∀ e j, sOne c nmx N i = .inl (e, j) → gBad Q sl c X Y e j) (hQ2 : ∀ k, sOne c nmx N i = .inr k → ∀ X' Y', KX X Y X' Y' → SR X' (L ++ [(y, 0, k)]) s (o + 1) true → RDR c (cA c i) (X' 199) (Y' 199) → X' 199 15 = X 199 15 → Q [.int (nI 1)] 231 sl (mem X' Y')) {x1 x2 x4 : Option Value} : aw ET G (d + 2) 281 150 [some (.ref 199), x1, x2, some (.int (nI lf)), x4] [] 231 sl (mem X Y) Q := by
  have hnm := fun (Q : List Value → Nat → Nat → ai_M → Prop) => Gnm (G := G) (d := d + 1) (sl := sl) (Q := Q) (X := X) (Y := Y) hR h ok hi
  unfold sOne at hQ1 hQ2
  cases m : cM c i
  · rw [if_pos m] at hQ1
    rw [m] at hnm
    have e0 : b01 (false = true) = nI 0 := by decide
    rw [e0] at hnm
    simp (disch := omega) [w281_150, x281_151, w281_154, w281_157, w281_158, rt281, rt281, aw_st, ai_cls, ai_len, ai_p, ai_sw, ai_m, ai_c, ai_at, ai_isI, ai_isJ, ai_isA, ai_ld, ai_1i, ai_2i, ai_2l, ai_cn, ai_j, ai_set, ai_set2, ai_nl, ai_rs, ai_sm, Value.category, hk0, hk1, lits, litb, litm, litm2, List.getElem?_cons_zero, List.getElem?_cons_succ, or_n0, bit_r, fi0, fi1, fi2, fi3, nI_toInt, nI_add, pk_mul, nI_leI, nI_ltI, nI_eq, pk_sub, ib_nI, nI_clamp, va_up_self, va_up_ne, va_up_up, va_up_comm, pk_us, pk_un, upd_up, updL_up, pk_uLs, pk_uLn, b01_1, b01_0, b01_1s, b01_0s, or_b, mm200, mu200, mm201, mu201, mm202, mu202, mm203, mu203, mm204, mu204, mm205, mu205, mm206, mu206, mm207, mu207, mm208, mu208, mm209, mu209, mm210, mu210, mm211, mu211, mm212, mu212, mm213, mu213, mm214, mu214, mm215, mu215, mm216, mu216, mm217, mu217, mm218, mu218, mm219, mu219, mm220, mu220, mm221, mu221, mm222, mu222, mm223, mu223, mm224, mu224, mm225, mu225, mm226, mu226, mm227, mu227, mm228, mu228, mm229, mu229, mm230, mu230, hnm]
    rw [x281_159, if_pos (by decide)]
    refine Gbad h (fun X3 Y3 f3 b15 b16 => ?_)
    simp (disch := omega) [w281_162, rt281, rt281, aw_st, ai_cls, ai_len, ai_p, ai_sw, ai_m, ai_c, ai_at, ai_isI, ai_isJ, ai_isA, ai_ld, ai_1i, ai_2i, ai_2l, ai_cn, ai_j, ai_set, ai_set2, ai_nl, ai_rs, ai_sm, Value.category, hk0, hk1, lits, litb, litm, litm2, List.getElem?_cons_zero, List.getElem?_cons_succ, or_n0, bit_r, fi0, fi1, fi2, fi3, nI_toInt, nI_add, pk_mul, nI_leI, nI_ltI, nI_eq, pk_sub, ib_nI, nI_clamp, va_up_self, va_up_ne, va_up_up, va_up_comm, pk_us, pk_un, upd_up, updL_up, pk_uLs, pk_uLn, b01_1, b01_0, b01_1s, b01_0s, or_b, mm200, mu200, mm201, mu201, mm202, mu202, mm203, mu203, mm204, mu204, mm205, mu205, mm206, mu206, mm207, mu207, mm208, mu208, mm209, mu209, mm210, mu210, mm211, mu211, mm212, mu212, mm213, mu213, mm214, mu214, mm215, mu215, mm216, mu216, mm217, mu217, mm218, mu218, mm219, mu219, mm220, mu220, mm221, mu221, mm222, mu222, mm223, mu223, mm224, mu224, mm225, mu225, mm226, mu226, mm227, mu227, mm228, mu228, mm229, mu229, mm230, mu230]
    exact hQ1 1 i rfl X3 Y3 f3 b15 b16
  · rw [if_neg (by rw [m]; decide)] at hQ1 hQ2
    rw [m] at hnm
    have e1 : b01 (true = true) = nI 1 := by decide
    rw [e1] at hnm
    have k2 := (isNm_wd m (X := fun _ => X 200) ok.1 ok.2.1 hi)
    have k2' : cK c i = 2 := k2.1
    have hfi := fun (Q : List Value → Nat → Nat → ai_M → Prop) => Gfind (G := G) (d := d + 1) (sl := sl) (Q := Q) (X := X) (Y := Y) (nm := nmx) (fr := fr) (N := N) (u := cW c i) hN8 (by omega) k2.2.2 (h.2.2.2.2.2.1 k2') hn
    have bad3 : fnd nmx (cW c i) N 0 = none → aw ET G (d + 2) 281 196 [some (.ref 199), x1, x2, some (.int (nI lf)), some (.int mi1)] [] 231 sl (mem X Y) Q := by
      intro e
      rw [e] at hQ1
      simp (disch := omega) [w281_196, w281_198, w281_201, w281_202, rt281, rt281, aw_st, ai_cls, ai_len, ai_p, ai_sw, ai_m, ai_c, ai_at, ai_isI, ai_isJ, ai_isA, ai_ld, ai_1i, ai_2i, ai_2l, ai_cn, ai_j, ai_set, ai_set2, ai_nl, ai_rs, ai_sm, Value.category, hk0, hk1, lits, litb, litm, litm2, List.getElem?_cons_zero, List.getElem?_cons_succ, or_n0, bit_r, fi0, fi1, fi2, fi3, nI_toInt, nI_add, pk_mul, nI_leI, nI_ltI, nI_eq, pk_sub, ib_nI, nI_clamp, va_up_self, va_up_ne, va_up_up, va_up_comm, pk_us, pk_un, upd_up, updL_up, pk_uLs, pk_uLn, b01_1, b01_0, b01_1s, b01_0s, or_b, mm200, mu200, mm201, mu201, mm202, mu202, mm203, mu203, mm204, mu204, mm205, mu205, mm206, mu206, mm207, mu207, mm208, mu208, mm209, mu209, mm210, mu210, mm211, mu211, mm212, mu212, mm213, mu213, mm214, mu214, mm215, mu215, mm216, mu216, mm217, mu217, mm218, mu218, mm219, mu219, mm220, mu220, mm221, mu221, mm222, mu222, mm223, mu223, mm224, mu224, mm225, mu225, mm226, mu226, mm227, mu227, mm228, mu228, mm229, mu229, mm230, mu230, n0mi]
      rw [x281_203, if_pos (by decide)]
      refine Gbad h (fun X3 Y3 f3 b15 b16 => ?_)
      simp (disch := omega) [w281_206, rt281, rt281, aw_st, ai_cls, ai_len, ai_p, ai_sw, ai_m, ai_c, ai_at, ai_isI, ai_isJ, ai_isA, ai_ld, ai_1i, ai_2i, ai_2l, ai_cn, ai_j, ai_set, ai_set2, ai_nl, ai_rs, ai_sm, Value.category, hk0, hk1, lits, litb, litm, litm2, List.getElem?_cons_zero, List.getElem?_cons_succ, or_n0, bit_r, fi0, fi1, fi2, fi3, nI_toInt, nI_add, pk_mul, nI_leI, nI_ltI, nI_eq, pk_sub, ib_nI, nI_clamp, va_up_self, va_up_ne, va_up_up, va_up_comm, pk_us, pk_un, upd_up, updL_up, pk_uLs, pk_uLn, b01_1, b01_0, b01_1s, b01_0s, or_b, mm200, mu200, mm201, mu201, mm202, mu202, mm203, mu203, mm204, mu204, mm205, mu205, mm206, mu206, mm207, mu207, mm208, mu208, mm209, mu209, mm210, mu210, mm211, mu211, mm212, mu212, mm213, mu213, mm214, mu214, mm215, mu215, mm216, mu216, mm217, mu217, mm218, mu218, mm219, mu219, mm220, mu220, mm221, mu221, mm222, mu222, mm223, mu223, mm224, mu224, mm225, mu225, mm226, mu226, mm227, mu227, mm228, mu228, mm229, mu229, mm230, mu230]
      exact hQ1 3 i rfl X3 Y3 f3 b15 b16
    have good : ∀ k, k < N → fnd nmx (cW c i) N 0 = some k → aw ET G (d + 2) 281 196 [some (.ref 199), x1, x2, some (.int (nI lf)), some (.int (nI k))] [] 231 sl (mem X Y) Q := by
      intro k hk e
      rw [e] at hQ2
      have sc := SR_co (z := (y, 0, k)) hs
      have hc : ∀ (Q : List Value → Nat → Nat → ai_M → Prop), aw ET G (d + 1) 278 0 [some (.ref 199), some (.int (nI lf)), some (.int (nI 0)), some (.int (nI k))] [] 231 sl (mem X Y) Q = Q [] 231 sl (mem (coX X L.length (nI (rkc y)) (nI 0) (nI k)) Y) := fun Q => by rw [hy]; exact code_eq hs.1 hl
      simp (disch := omega) [w281_196, w281_198, w281_207, w281_208, w281_209, w281_210, x281_212, w281_215, rt281, rt281, aw_st, ai_cls, ai_len, ai_p, ai_sw, ai_m, ai_c, ai_at, ai_isI, ai_isJ, ai_isA, ai_ld, ai_1i, ai_2i, ai_2l, ai_cn, ai_j, ai_set, ai_set2, ai_nl, ai_rs, ai_sm, Value.category, hk0, hk1, lits, litb, litm, litm2, List.getElem?_cons_zero, List.getElem?_cons_succ, or_n0, bit_r, fi0, fi1, fi2, fi3, nI_toInt, nI_add, pk_mul, nI_leI, nI_ltI, nI_eq, pk_sub, ib_nI, nI_clamp, va_up_self, va_up_ne, va_up_up, va_up_comm, pk_us, pk_un, upd_up, updL_up, pk_uLs, pk_uLn, b01_1, b01_0, b01_1s, b01_0s, or_b, mm200, mu200, mm201, mu201, mm202, mu202, mm203, mu203, mm204, mu204, mm205, mu205, mm206, mu206, mm207, mu207, mm208, mu208, mm209, mu209, mm210, mu210, mm211, mu211, mm212, mu212, mm213, mu213, mm214, mu214, mm215, mu215, mm216, mu216, mm217, mu217, mm218, mu218, mm219, mu219, mm220, mu220, mm221, mu221, mm222, mu222, mm223, mu223, mm224, mu224, mm225, mu225, mm226, mu226, mm227, mu227, mm228, mu228, mm229, mu229, mm230, mu230, hc]
      rw [x281_216, if_pos (by decide)]
      have hc2 : KZ X (coX X L.length (nI (rkc y)) (nI 0) (nI k)) := KZ_co
      refine Ggo (d := d) (KZ_rdr h hc2) (by omega) (OKr_cg ok (hc2.1 200 (by omega) (by omega) (by omega))) hi (fun X3 Y3 f3 r3 g15 _ => ?_)
      simp (disch := omega) [w281_219, w281_220, rt281, rt281, aw_st, ai_cls, ai_len, ai_p, ai_sw, ai_m, ai_c, ai_at, ai_isI, ai_isJ, ai_isA, ai_ld, ai_1i, ai_2i, ai_2l, ai_cn, ai_j, ai_set, ai_set2, ai_nl, ai_rs, ai_sm, Value.category, hk0, hk1, lits, litb, litm, litm2, List.getElem?_cons_zero, List.getElem?_cons_succ, or_n0, bit_r, fi0, fi1, fi2, fi3, nI_toInt, nI_add, pk_mul, nI_leI, nI_ltI, nI_eq, pk_sub, ib_nI, nI_clamp, va_up_self, va_up_ne, va_up_up, va_up_comm, pk_us, pk_un, upd_up, updL_up, pk_uLs, pk_uLn, b01_1, b01_0, b01_1s, b01_0s, or_b, mm200, mu200, mm201, mu201, mm202, mu202, mm203, mu203, mm204, mu204, mm205, mu205, mm206, mu206, mm207, mu207, mm208, mu208, mm209, mu209, mm210, mu210, mm211, mu211, mm212, mu212, mm213, mu213, mm214, mu214, mm215, mu215, mm216, mu216, mm217, mu217, mm218, mu218, mm219, mu219, mm220, mu220, mm221, mu221, mm222, mu222, mm223, mu223, mm224, mu224, mm225, mu225, mm226, mu226, mm227, mu227, mm228, mu228, mm229, mu229, mm230, mu230]
      exact hQ2 k rfl X3 Y3 (hc2.kx.tr f3.kx) (SR_h sc f3) r3 (by rw [g15, hc2.2 15 (by omega)])
    rcases hfr with ⟨rfl, rfl, rfl⟩ | ⟨rfl, rfl, rfl⟩
    · rcases fnd_oI (nm := nmx) (u := cW c i) (N := N) with e | ⟨k, hk, e⟩
      · rw [e] at hfi
        have := bad3 e
        simp (disch := omega) [w281_150, x281_151, w281_154, w281_157, w281_158, x281_159, w281_162, w281_163, w281_164, w281_165, w281_168, w281_169, w281_171, x281_172, w281_175, w281_176, x281_177, w281_180, w281_183, w281_184, w281_185, x281_186, w281_189, w281_190, x281_191, w281_194, rt281, rt281, aw_st, ai_cls, ai_len, ai_p, ai_sw, ai_m, ai_c, ai_at, ai_isI, ai_isJ, ai_isA, ai_ld, ai_1i, ai_2i, ai_2l, ai_cn, ai_j, ai_set, ai_set2, ai_nl, ai_rs, ai_sm, Value.category, hk0, hk1, lits, litb, litm, litm2, List.getElem?_cons_zero, List.getElem?_cons_succ, or_n0, bit_r, fi0, fi1, fi2, fi3, nI_toInt, nI_add, pk_mul, nI_leI, nI_ltI, nI_eq, pk_sub, ib_nI, nI_clamp, va_up_self, va_up_ne, va_up_up, va_up_comm, pk_us, pk_un, upd_up, updL_up, pk_uLs, pk_uLn, b01_1, b01_0, b01_1s, b01_0s, or_b, mm200, mu200, mm201, mu201, mm202, mu202, mm203, mu203, mm204, mu204, mm205, mu205, mm206, mu206, mm207, mu207, mm208, mu208, mm209, mu209, mm210, mu210, mm211, mu211, mm212, mu212, mm213, mu213, mm214, mu214, mm215, mu215, mm216, mu216, mm217, mu217, mm218, mu218, mm219, mu219, mm220, mu220, mm221, mu221, mm222, mu222, mm223, mu223, mm224, mu224, mm225, mu225, mm226, mu226, mm227, mu227, mm228, mu228, mm229, mu229, mm230, mu230, hnm, h01, hfi, oI]
        exact this
      · rw [e] at hfi
        have := good k hk e
        simp (disch := omega) [w281_150, x281_151, w281_154, w281_157, w281_158, x281_159, w281_162, w281_163, w281_164, w281_165, w281_168, w281_169, w281_171, x281_172, w281_175, w281_176, x281_177, w281_180, w281_183, w281_184, w281_185, x281_186, w281_189, w281_190, x281_191, w281_194, rt281, rt281, aw_st, ai_cls, ai_len, ai_p, ai_sw, ai_m, ai_c, ai_at, ai_isI, ai_isJ, ai_isA, ai_ld, ai_1i, ai_2i, ai_2l, ai_cn, ai_j, ai_set, ai_set2, ai_nl, ai_rs, ai_sm, Value.category, hk0, hk1, lits, litb, litm, litm2, List.getElem?_cons_zero, List.getElem?_cons_succ, or_n0, bit_r, fi0, fi1, fi2, fi3, nI_toInt, nI_add, pk_mul, nI_leI, nI_ltI, nI_eq, pk_sub, ib_nI, nI_clamp, va_up_self, va_up_ne, va_up_up, va_up_comm, pk_us, pk_un, upd_up, updL_up, pk_uLs, pk_uLn, b01_1, b01_0, b01_1s, b01_0s, or_b, mm200, mu200, mm201, mu201, mm202, mu202, mm203, mu203, mm204, mu204, mm205, mu205, mm206, mu206, mm207, mu207, mm208, mu208, mm209, mu209, mm210, mu210, mm211, mu211, mm212, mu212, mm213, mu213, mm214, mu214, mm215, mu215, mm216, mu216, mm217, mu217, mm218, mu218, mm219, mu219, mm220, mu220, mm221, mu221, mm222, mu222, mm223, mu223, mm224, mu224, mm225, mu225, mm226, mu226, mm227, mu227, mm228, mu228, mm229, mu229, mm230, mu230, hnm, h01, hfi, oI]
        exact this
    · rcases fnd_oI (nm := nmx) (u := cW c i) (N := N) with e | ⟨k, hk, e⟩
      · rw [e] at hfi
        have := bad3 e
        simp (disch := omega) [w281_150, x281_151, w281_154, w281_157, w281_158, x281_159, w281_162, w281_163, w281_164, w281_165, w281_168, w281_169, w281_171, x281_172, w281_175, w281_176, x281_177, w281_180, w281_183, w281_184, w281_185, x281_186, w281_189, w281_190, x281_191, w281_194, rt281, rt281, aw_st, ai_cls, ai_len, ai_p, ai_sw, ai_m, ai_c, ai_at, ai_isI, ai_isJ, ai_isA, ai_ld, ai_1i, ai_2i, ai_2l, ai_cn, ai_j, ai_set, ai_set2, ai_nl, ai_rs, ai_sm, Value.category, hk0, hk1, lits, litb, litm, litm2, List.getElem?_cons_zero, List.getElem?_cons_succ, or_n0, bit_r, fi0, fi1, fi2, fi3, nI_toInt, nI_add, pk_mul, nI_leI, nI_ltI, nI_eq, pk_sub, ib_nI, nI_clamp, va_up_self, va_up_ne, va_up_up, va_up_comm, pk_us, pk_un, upd_up, updL_up, pk_uLs, pk_uLn, b01_1, b01_0, b01_1s, b01_0s, or_b, mm200, mu200, mm201, mu201, mm202, mu202, mm203, mu203, mm204, mu204, mm205, mu205, mm206, mu206, mm207, mu207, mm208, mu208, mm209, mu209, mm210, mu210, mm211, mu211, mm212, mu212, mm213, mu213, mm214, mu214, mm215, mu215, mm216, mu216, mm217, mu217, mm218, mu218, mm219, mu219, mm220, mu220, mm221, mu221, mm222, mu222, mm223, mu223, mm224, mu224, mm225, mu225, mm226, mu226, mm227, mu227, mm228, mu228, mm229, mu229, mm230, mu230, hnm, h01, hfi, oI]
        exact this
      · rw [e] at hfi
        have := good k hk e
        simp (disch := omega) [w281_150, x281_151, w281_154, w281_157, w281_158, x281_159, w281_162, w281_163, w281_164, w281_165, w281_168, w281_169, w281_171, x281_172, w281_175, w281_176, x281_177, w281_180, w281_183, w281_184, w281_185, x281_186, w281_189, w281_190, x281_191, w281_194, rt281, rt281, aw_st, ai_cls, ai_len, ai_p, ai_sw, ai_m, ai_c, ai_at, ai_isI, ai_isJ, ai_isA, ai_ld, ai_1i, ai_2i, ai_2l, ai_cn, ai_j, ai_set, ai_set2, ai_nl, ai_rs, ai_sm, Value.category, hk0, hk1, lits, litb, litm, litm2, List.getElem?_cons_zero, List.getElem?_cons_succ, or_n0, bit_r, fi0, fi1, fi2, fi3, nI_toInt, nI_add, pk_mul, nI_leI, nI_ltI, nI_eq, pk_sub, ib_nI, nI_clamp, va_up_self, va_up_ne, va_up_up, va_up_comm, pk_us, pk_un, upd_up, updL_up, pk_uLs, pk_uLn, b01_1, b01_0, b01_1s, b01_0s, or_b, mm200, mu200, mm201, mu201, mm202, mu202, mm203, mu203, mm204, mu204, mm205, mu205, mm206, mu206, mm207, mu207, mm208, mu208, mm209, mu209, mm210, mu210, mm211, mu211, mm212, mu212, mm213, mu213, mm214, mu214, mm215, mu215, mm216, mu216, mm217, mu217, mm218, mu218, mm219, mu219, mm220, mu220, mm221, mu221, mm222, mu222, mm223, mu223, mm224, mu224, mm225, mu225, mm226, mu226, mm227, mu227, mm228, mu228, mm229, mu229, mm230, mu230, hnm, h01, hfi, oI]
        exact this
/-- behind the word of a leaf that measures -/
theorem meas_leaf {lf : Nat} (y : Nat) (hms : isMs y = true) (hy : lf = rkc y) (hs : SR X L s (o + 1) true) (h : RDR c i (X 199) (Y 199)) (ok : OKr c X) (hi : i ≤ c.2.1) (hl : L.length < 44) (hQ1 : ∀ e j, leafS c nm P S y i = .inl (e, j) → gBad Q sl c X Y e j) (hQ2 : ∀ i2 z, leafS c nm P S y i = .inr (i2, z) → i2 ≤ c.2.1 → ∀ X' Y', KX X Y X' Y' → SR X' (L ++ [z]) s (o + 1) true → RDR c i2 (X' 199) (Y' 199) → X' 199 15 = X 199 15 → Q [.int (nI 1)] 231 sl (mem X' Y')) {x1 x2 x4 : Option Value} : aw ET G (d + 2) 281 221 [some (.ref 199), x1, x2, some (.int (nI lf)), x4] [] 231 sl (mem X Y) Q := by
  have hyy : 16 ≤ y ∧ y ≤ 20 := by
    unfold isMs at hms
    rw [Bool.and_eq_true] at hms
    exact ⟨of_decide_eq_true hms.1, of_decide_eq_true hms.2⟩
  have k256 := cK_lt ok hi
  have h11 : X 199 11 = nI (rkN (cK c i)) := h.2.2.2.1
  have rle := rkN_le (k := cK c i)
  unfold leafS at hQ1 hQ2
  rw [if_neg (by omega), if_neg (by omega), if_pos hms] at hQ1 hQ2
  have bad : aw ET G (d + 2) 281 247 [some (.ref 199), x1, x2, some (.int (nI lf)), x4] [] 231 sl (mem X Y) Q ∨ isCm (cK c i) = true := by
    cases q : isCm (cK c i)
    · left
      rw [if_pos q] at hQ1
      simp (disch := omega) [w281_247, w281_248, rt281, rt281, aw_st, ai_cls, ai_len, ai_p, ai_sw, ai_m, ai_c, ai_at, ai_isI, ai_isJ, ai_isA, ai_ld, ai_1i, ai_2i, ai_2l, ai_cn, ai_j, ai_set, ai_set2, ai_nl, ai_rs, ai_sm, Value.category, hk0, hk1, lits, litb, litm, litm2, List.getElem?_cons_zero, List.getElem?_cons_succ, or_n0, bit_r, fi0, fi1, fi2, fi3, nI_toInt, nI_add, pk_mul, nI_leI, nI_ltI, nI_eq, pk_sub, ib_nI, nI_clamp, va_up_self, va_up_ne, va_up_up, va_up_comm, pk_us, pk_un, upd_up, updL_up, pk_uLs, pk_uLn, b01_1, b01_0, b01_1s, b01_0s, or_b, mm200, mu200, mm201, mu201, mm202, mu202, mm203, mu203, mm204, mu204, mm205, mu205, mm206, mu206, mm207, mu207, mm208, mu208, mm209, mu209, mm210, mu210, mm211, mu211, mm212, mu212, mm213, mu213, mm214, mu214, mm215, mu215, mm216, mu216, mm217, mu217, mm218, mu218, mm219, mu219, mm220, mu220, mm221, mu221, mm222, mu222, mm223, mu223, mm224, mu224, mm225, mu225, mm226, mu226, mm227, mu227, mm228, mu228, mm229, mu229, mm230, mu230]
      rw [x281_249, if_pos (by decide)]
      refine Gbad h (fun X3 Y3 f3 b15 b16 => ?_)
      simp (disch := omega) [w281_252, rt281, rt281, aw_st, ai_cls, ai_len, ai_p, ai_sw, ai_m, ai_c, ai_at, ai_isI, ai_isJ, ai_isA, ai_ld, ai_1i, ai_2i, ai_2l, ai_cn, ai_j, ai_set, ai_set2, ai_nl, ai_rs, ai_sm, Value.category, hk0, hk1, lits, litb, litm, litm2, List.getElem?_cons_zero, List.getElem?_cons_succ, or_n0, bit_r, fi0, fi1, fi2, fi3, nI_toInt, nI_add, pk_mul, nI_leI, nI_ltI, nI_eq, pk_sub, ib_nI, nI_clamp, va_up_self, va_up_ne, va_up_up, va_up_comm, pk_us, pk_un, upd_up, updL_up, pk_uLs, pk_uLn, b01_1, b01_0, b01_1s, b01_0s, or_b, mm200, mu200, mm201, mu201, mm202, mu202, mm203, mu203, mm204, mu204, mm205, mu205, mm206, mu206, mm207, mu207, mm208, mu208, mm209, mu209, mm210, mu210, mm211, mu211, mm212, mu212, mm213, mu213, mm214, mu214, mm215, mu215, mm216, mu216, mm217, mu217, mm218, mu218, mm219, mu219, mm220, mu220, mm221, mu221, mm222, mu222, mm223, mu223, mm224, mu224, mm225, mu225, mm226, mu226, mm227, mu227, mm228, mu228, mm229, mu229, mm230, mu230]
      exact hQ1 1 i rfl X3 Y3 f3 b15 b16
    · exact Or.inr rfl
  by_cases q3 : rkN (cK c i) = 3
  · have h14 : X 199 14 = nI (cK c i) := h.2.2.2.2.2.2.2 (rkN_3.mp q3)
    rw [q3] at h11
    by_cases a : cK c i < 60
    · have b := bad.resolve_right (by unfold isCm; simp only [Bool.or_eq_true, decide_eq_true_eq]; omega)
      simp (disch := omega) [w281_221, x281_222, w281_225, w281_226, w281_229, x281_230, w281_233, w281_235, w281_238, x281_239, w281_242, w281_244, rt281, rt281, aw_st, ai_cls, ai_len, ai_p, ai_sw, ai_m, ai_c, ai_at, ai_isI, ai_isJ, ai_isA, ai_ld, ai_1i, ai_2i, ai_2l, ai_cn, ai_j, ai_set, ai_set2, ai_nl, ai_rs, ai_sm, Value.category, hk0, hk1, lits, litb, litm, litm2, List.getElem?_cons_zero, List.getElem?_cons_succ, or_n0, bit_r, fi0, fi1, fi2, fi3, nI_toInt, nI_add, pk_mul, nI_leI, nI_ltI, nI_eq, pk_sub, ib_nI, nI_clamp, va_up_self, va_up_ne, va_up_up, va_up_comm, pk_us, pk_un, upd_up, updL_up, pk_uLs, pk_uLn, b01_1, b01_0, b01_1s, b01_0s, or_b, mm200, mu200, mm201, mu201, mm202, mu202, mm203, mu203, mm204, mu204, mm205, mu205, mm206, mu206, mm207, mu207, mm208, mu208, mm209, mu209, mm210, mu210, mm211, mu211, mm212, mu212, mm213, mu213, mm214, mu214, mm215, mu215, mm216, mu216, mm217, mu217, mm218, mu218, mm219, mu219, mm220, mu220, mm221, mu221, mm222, mu222, mm223, mu223, mm224, mu224, mm225, mu225, mm226, mu226, mm227, mu227, mm228, mu228, mm229, mu229, mm230, mu230, h11, h14, a]
      exact b
    · by_cases a2 : cK c i ≤ 62
      · have hcm : isCm (cK c i) = true := by unfold isCm; simp only [Bool.or_eq_true, decide_eq_true_eq]; omega
        rw [if_neg (by rw [hcm]; decide)] at hQ1 hQ2
        simp (disch := omega) [w281_221, x281_222, w281_225, w281_226, w281_229, x281_230, w281_233, w281_235, w281_238, x281_239, w281_242, w281_244, w281_253, x281_254, w281_257, w281_259, rt281, rt281, aw_st, ai_cls, ai_len, ai_p, ai_sw, ai_m, ai_c, ai_at, ai_isI, ai_isJ, ai_isA, ai_ld, ai_1i, ai_2i, ai_2l, ai_cn, ai_j, ai_set, ai_set2, ai_nl, ai_rs, ai_sm, Value.category, hk0, hk1, lits, litb, litm, litm2, List.getElem?_cons_zero, List.getElem?_cons_succ, or_n0, bit_r, fi0, fi1, fi2, fi3, nI_toInt, nI_add, pk_mul, nI_leI, nI_ltI, nI_eq, pk_sub, ib_nI, nI_clamp, va_up_self, va_up_ne, va_up_up, va_up_comm, pk_us, pk_un, upd_up, updL_up, pk_uLs, pk_uLn, b01_1, b01_0, b01_1s, b01_0s, or_b, mm200, mu200, mm201, mu201, mm202, mu202, mm203, mu203, mm204, mu204, mm205, mu205, mm206, mu206, mm207, mu207, mm208, mu208, mm209, mu209, mm210, mu210, mm211, mu211, mm212, mu212, mm213, mu213, mm214, mu214, mm215, mu215, mm216, mu216, mm217, mu217, mm218, mu218, mm219, mu219, mm220, mu220, mm221, mu221, mm222, mu222, mm223, mu223, mm224, mu224, mm225, mu225, mm226, mu226, mm227, mu227, mm228, mu228, mm229, mu229, mm230, mu230, h11, h14, a, a2]
        rw [x281_260, if_pos (by decide)]
        refine Ggo (d := d) h (by omega) ok hi (fun X1 Y1 f1 r1 g15 _ => ?_)
        have ok1 : OKr c X1 := OKr_cg ok (f1.1 200 (by omega))
        have g11 : X1 199 11 = nI (rkN (cK c (cA c i))) := r1.2.2.2.1
        have rle1 := rkN_le (k := cK c (cA c i))
        by_cases k3 : cK c (cA c i) = 3
        · have hN : cN c (cA c i) < 1000 := tN_lt k3 (cA_le hi)
          have g14 : X1 199 14 = nI (cN c (cA c i)) := r1.2.2.2.2.2.2.1 k3
          have es : sNum c 0 999 (cA c i) = .inr (cN c (cA c i), cA c (cA c i)) := by
            unfold sNum
            rw [if_neg (fun q => q k3), if_neg (fun q => q ⟨by omega, by omega⟩)]
          rw [es] at hQ2
          have s1 := SR_h hs f1
          have sc := SR_co (z := (y, cK c i, cN c (cA c i))) s1
          rw [rkN_2.mpr k3] at g11
          have hc : ∀ (Q : List Value → Nat → Nat → ai_M → Prop), aw ET G (d + 1) 278 0 [some (.ref 199), some (.int (nI lf)), some (.int (nI (cK c i))), some (.int (nI (cN c (cA c i))))] [] 231 sl (mem X1 Y1) Q = Q [] 231 sl (mem (coX X1 L.length (nI (rkc y)) (nI (cK c i)) (nI (cN c (cA c i)))) Y1) := fun Q => by rw [hy]; exact code_eq s1.1 hl
          simp (disch := omega) [w281_263, x281_264, w281_267, w281_268, w281_277, w281_278, w281_279, w281_281, x281_282, x281_285, w281_288, rt281, rt281, aw_st, ai_cls, ai_len, ai_p, ai_sw, ai_m, ai_c, ai_at, ai_isI, ai_isJ, ai_isA, ai_ld, ai_1i, ai_2i, ai_2l, ai_cn, ai_j, ai_set, ai_set2, ai_nl, ai_rs, ai_sm, Value.category, hk0, hk1, lits, litb, litm, litm2, List.getElem?_cons_zero, List.getElem?_cons_succ, or_n0, bit_r, fi0, fi1, fi2, fi3, nI_toInt, nI_add, pk_mul, nI_leI, nI_ltI, nI_eq, pk_sub, ib_nI, nI_clamp, va_up_self, va_up_ne, va_up_up, va_up_comm, pk_us, pk_un, upd_up, updL_up, pk_uLs, pk_uLn, b01_1, b01_0, b01_1s, b01_0s, or_b, mm200, mu200, mm201, mu201, mm202, mu202, mm203, mu203, mm204, mu204, mm205, mu205, mm206, mu206, mm207, mu207, mm208, mu208, mm209, mu209, mm210, mu210, mm211, mu211, mm212, mu212, mm213, mu213, mm214, mu214, mm215, mu215, mm216, mu216, mm217, mu217, mm218, mu218, mm219, mu219, mm220, mu220, mm221, mu221, mm222, mu222, mm223, mu223, mm224, mu224, mm225, mu225, mm226, mu226, mm227, mu227, mm228, mu228, mm229, mu229, mm230, mu230, g11, g14, hc]
          rw [x281_289, if_pos (by decide)]
          have hc2 : KZ X1 (coX X1 L.length (nI (rkc y)) (nI (cK c i)) (nI (cN c (cA c i)))) := KZ_co
          refine Ggo (d := d) (KZ_rdr r1 hc2) (by omega) (OKr_cg ok1 (hc2.1 200 (by omega) (by omega) (by omega))) (cA_le hi) (fun X3 Y3 f3 r3 q15 _ => ?_)
          simp (disch := omega) [w281_292, w281_293, rt281, rt281, aw_st, ai_cls, ai_len, ai_p, ai_sw, ai_m, ai_c, ai_at, ai_isI, ai_isJ, ai_isA, ai_ld, ai_1i, ai_2i, ai_2l, ai_cn, ai_j, ai_set, ai_set2, ai_nl, ai_rs, ai_sm, Value.category, hk0, hk1, lits, litb, litm, litm2, List.getElem?_cons_zero, List.getElem?_cons_succ, or_n0, bit_r, fi0, fi1, fi2, fi3, nI_toInt, nI_add, pk_mul, nI_leI, nI_ltI, nI_eq, pk_sub, ib_nI, nI_clamp, va_up_self, va_up_ne, va_up_up, va_up_comm, pk_us, pk_un, upd_up, updL_up, pk_uLs, pk_uLn, b01_1, b01_0, b01_1s, b01_0s, or_b, mm200, mu200, mm201, mu201, mm202, mu202, mm203, mu203, mm204, mu204, mm205, mu205, mm206, mu206, mm207, mu207, mm208, mu208, mm209, mu209, mm210, mu210, mm211, mu211, mm212, mu212, mm213, mu213, mm214, mu214, mm215, mu215, mm216, mu216, mm217, mu217, mm218, mu218, mm219, mu219, mm220, mu220, mm221, mu221, mm222, mu222, mm223, mu223, mm224, mu224, mm225, mu225, mm226, mu226, mm227, mu227, mm228, mu228, mm229, mu229, mm230, mu230]
          exact hQ2 _ _ rfl (cA_le (cA_le hi)) X3 Y3 (f1.kx.tr (hc2.kx.tr f3.kx)) (SR_h sc f3) r3 (by rw [q15, hc2.2 15 (by omega), g15])
        · have n2 : ¬ rkN (cK c (cA c i)) = 2 := fun q => k3 (rkN_2.mp q)
          have es : sNum c 0 999 (cA c i) = .inl (1, cA c i) := by
            unfold sNum
            rw [if_pos k3]
          rw [es] at hQ1
          simp (disch := omega) [w281_263, x281_264, w281_267, w281_268, w281_271, w281_272, rt281, rt281, aw_st, ai_cls, ai_len, ai_p, ai_sw, ai_m, ai_c, ai_at, ai_isI, ai_isJ, ai_isA, ai_ld, ai_1i, ai_2i, ai_2l, ai_cn, ai_j, ai_set, ai_set2, ai_nl, ai_rs, ai_sm, Value.category, hk0, hk1, lits, litb, litm, litm2, List.getElem?_cons_zero, List.getElem?_cons_succ, or_n0, bit_r, fi0, fi1, fi2, fi3, nI_toInt, nI_add, pk_mul, nI_leI, nI_ltI, nI_eq, pk_sub, ib_nI, nI_clamp, va_up_self, va_up_ne, va_up_up, va_up_comm, pk_us, pk_un, upd_up, updL_up, pk_uLs, pk_uLn, b01_1, b01_0, b01_1s, b01_0s, or_b, mm200, mu200, mm201, mu201, mm202, mu202, mm203, mu203, mm204, mu204, mm205, mu205, mm206, mu206, mm207, mu207, mm208, mu208, mm209, mu209, mm210, mu210, mm211, mu211, mm212, mu212, mm213, mu213, mm214, mu214, mm215, mu215, mm216, mu216, mm217, mu217, mm218, mu218, mm219, mu219, mm220, mu220, mm221, mu221, mm222, mu222, mm223, mu223, mm224, mu224, mm225, mu225, mm226, mu226, mm227, mu227, mm228, mu228, mm229, mu229, mm230, mu230, g11, n2]
          rw [x281_273, if_pos (by decide)]
          refine Gbad r1 (fun X3 Y3 f3 b15 b16 => ?_)
          simp (disch := omega) [w281_276, rt281, rt281, aw_st, ai_cls, ai_len, ai_p, ai_sw, ai_m, ai_c, ai_at, ai_isI, ai_isJ, ai_isA, ai_ld, ai_1i, ai_2i, ai_2l, ai_cn, ai_j, ai_set, ai_set2, ai_nl, ai_rs, ai_sm, Value.category, hk0, hk1, lits, litb, litm, litm2, List.getElem?_cons_zero, List.getElem?_cons_succ, or_n0, bit_r, fi0, fi1, fi2, fi3, nI_toInt, nI_add, pk_mul, nI_leI, nI_ltI, nI_eq, pk_sub, ib_nI, nI_clamp, va_up_self, va_up_ne, va_up_up, va_up_comm, pk_us, pk_un, upd_up, updL_up, pk_uLs, pk_uLn, b01_1, b01_0, b01_1s, b01_0s, or_b, mm200, mu200, mm201, mu201, mm202, mu202, mm203, mu203, mm204, mu204, mm205, mu205, mm206, mu206, mm207, mu207, mm208, mu208, mm209, mu209, mm210, mu210, mm211, mu211, mm212, mu212, mm213, mu213, mm214, mu214, mm215, mu215, mm216, mu216, mm217, mu217, mm218, mu218, mm219, mu219, mm220, mu220, mm221, mu221, mm222, mu222, mm223, mu223, mm224, mu224, mm225, mu225, mm226, mu226, mm227, mu227, mm228, mu228, mm229, mu229, mm230, mu230]
          exact hQ1 1 (cA c i) rfl X3 Y3 (f1.tr f3) b15 b16
      · have b := bad.resolve_right (by unfold isCm; simp only [Bool.or_eq_true, decide_eq_true_eq]; omega)
        simp (disch := omega) [w281_221, x281_222, w281_225, w281_226, w281_229, x281_230, w281_233, w281_235, w281_238, x281_239, w281_242, w281_244, rt281, rt281, aw_st, ai_cls, ai_len, ai_p, ai_sw, ai_m, ai_c, ai_at, ai_isI, ai_isJ, ai_isA, ai_ld, ai_1i, ai_2i, ai_2l, ai_cn, ai_j, ai_set, ai_set2, ai_nl, ai_rs, ai_sm, Value.category, hk0, hk1, lits, litb, litm, litm2, List.getElem?_cons_zero, List.getElem?_cons_succ, or_n0, bit_r, fi0, fi1, fi2, fi3, nI_toInt, nI_add, pk_mul, nI_leI, nI_ltI, nI_eq, pk_sub, ib_nI, nI_clamp, va_up_self, va_up_ne, va_up_up, va_up_comm, pk_us, pk_un, upd_up, updL_up, pk_uLs, pk_uLn, b01_1, b01_0, b01_1s, b01_0s, or_b, mm200, mu200, mm201, mu201, mm202, mu202, mm203, mu203, mm204, mu204, mm205, mu205, mm206, mu206, mm207, mu207, mm208, mu208, mm209, mu209, mm210, mu210, mm211, mu211, mm212, mu212, mm213, mu213, mm214, mu214, mm215, mu215, mm216, mu216, mm217, mu217, mm218, mu218, mm219, mu219, mm220, mu220, mm221, mu221, mm222, mu222, mm223, mu223, mm224, mu224, mm225, mu225, mm226, mu226, mm227, mu227, mm228, mu228, mm229, mu229, mm230, mu230, h11, h14, a, a2]
        exact b
  · have b := bad.resolve_right (by
      intro q
      have : 4 ≤ cK c i := by
        unfold isCm at q
        simp only [Bool.or_eq_true, decide_eq_true_eq] at q
        omega
      exact q3 (rkN_3.mpr this))
    simp (disch := omega) [w281_221, x281_222, w281_225, w281_226, rt281, rt281, aw_st, ai_cls, ai_len, ai_p, ai_sw, ai_m, ai_c, ai_at, ai_isI, ai_isJ, ai_isA, ai_ld, ai_1i, ai_2i, ai_2l, ai_cn, ai_j, ai_set, ai_set2, ai_nl, ai_rs, ai_sm, Value.category, hk0, hk1, lits, litb, litm, litm2, List.getElem?_cons_zero, List.getElem?_cons_succ, or_n0, bit_r, fi0, fi1, fi2, fi3, nI_toInt, nI_add, pk_mul, nI_leI, nI_ltI, nI_eq, pk_sub, ib_nI, nI_clamp, va_up_self, va_up_ne, va_up_up, va_up_comm, pk_us, pk_un, upd_up, updL_up, pk_uLs, pk_uLn, b01_1, b01_0, b01_1s, b01_0s, or_b, mm200, mu200, mm201, mu201, mm202, mu202, mm203, mu203, mm204, mu204, mm205, mu205, mm206, mu206, mm207, mu207, mm208, mu208, mm209, mu209, mm210, mu210, mm211, mu211, mm212, mu212, mm213, mu213, mm214, mu214, mm215, mu215, mm216, mu216, mm217, mu217, mm218, mu218, mm219, mu219, mm220, mu220, mm221, mu221, mm222, mu222, mm223, mu223, mm224, mu224, mm225, mu225, mm226, mu226, mm227, mu227, mm228, mu228, mm229, mu229, mm230, mu230, h11, q3]
    exact b
end RSC
