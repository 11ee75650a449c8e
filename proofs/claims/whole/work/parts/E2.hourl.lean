/-! HOUR: the reference, an arrangement kept -/
section RHL
variable {G : ai_G} {d sl : Nat} {Q : List Value → Nat → Nat → ai_M → Prop} {Y : mY} {X : mX} {P S p v : Nat} {l k : Nat → Nat → Int32}
set_option maxHeartbeats 4000000 in
theorem leaf_loop {pr : Nat → Int32} {v2 v3 v4 : Int32} (hP : P ≤ 8) : ∀ (r i : Nat) (X : mX) (v5 : Option Value), i + r = P → HR (X 210) (X 211) pr P P → (∀ X' v5, X' 210 = X 210 → (∀ j, ¬ j = 212 → X' j = X j) → (∀ q, i ≤ q → q < P → X' 212 q = pr q) → (∀ q, q < i ∨ P ≤ q → X' 212 q = X 212 q) → aw ET G (d + 1) 236 126 [some (.ref 199), some (.int (nI P)), some (.int v2), some (.int v3), some (.int v4), some (.int v5)] [] 231 sl (mem X' Y) Q) → aw ET G (d + 1) 236 68 [some (.ref 199), some (.int (nI P)), some (.int v2), some (.int v3), some (.int v4), some (.int (nI i))] [] 231 sl (mem X Y) Q := by
  intro r
  induction r with
  | zero =>
    intro i X v5 hi h hQ
    have : i = P := by omega
    subst this
    have := hQ X (nI i) rfl (fun _ _ => rfl) (fun q h1 h2 => by omega) (fun _ _ => rfl)
    rw [w236_68]
    simp (disch := omega) [w236_70, w236_71, rt236, aw_st, ai_cls, ai_len, ai_p, ai_sw, ai_m, ai_c, ai_at, ai_isI, ai_isJ, ai_isA, ai_ld, ai_1i, ai_2i, ai_2l, ai_cn, ai_j, ai_set, ai_set2, ai_nl, ai_rs, ai_sm, Value.category, hk0, hk1, lits, litb, litm, litm2, List.getElem?_cons_zero, List.getElem?_cons_succ, or_n0, bit_r, fi0, fi1, fi2, fi3, nI_toInt, nI_add, pk_mul, nI_leI, nI_ltI, nI_eq, pk_sub, ib_nI, nI_clamp, va_up_self, va_up_ne, va_up_up, va_up_comm, pk_us, pk_un, upd_up, updL_up, pk_uLs, pk_uLn, b01_1, b01_0, b01_1s, b01_0s, or_b, mm200, mu200, mm201, mu201, mm202, mu202, mm203, mu203, mm204, mu204, mm205, mu205, mm206, mu206, mm207, mu207, mm208, mu208, mm209, mu209, mm210, mu210, mm211, mu211, mm212, mu212, mm213, mu213, mm214, mu214, mm215, mu215, mm216, mu216, mm217, mu217, mm218, mu218, mm219, mu219, mm220, mu220, mm221, mu221, mm222, mu222, mm223, mu223, mm224, mu224, mm225, mu225, mm226, mu226, mm227, mu227, mm228, mu228, mm229, mu229, mm230, mu230]
    exact this
  | succ r ih =>
    intro i X v5 hi h hQ
    have hstep : aw ET G (d + 1) 236 68 [some (.ref 199), some (.int (nI P)), some (.int v2), some (.int v3), some (.int v4), some (.int (nI (i + 1)))] [] 231 sl (mem (va_up X 212 (upd (X 212) i (pr i))) Y) Q := by
      refine ih (i + 1) _ none (by omega) h (fun X' w5 a b c e => hQ X' w5 a (fun j hj => by rw [b j hj, va_up_ne _ _ hj]) (fun q h1 h2 => ?_) (fun q hq => ?_))
      · by_cases e1 : q = i
        · subst e1; rw [e q (by omega), va_up_self, pk_us]
        · exact c q (by omega) h2
      · rw [e q (by omega), va_up_self, pk_un (by omega)]
    rw [w236_68]
    by_cases hm : X 211 i = mi1
    · have h0 : pr i = nI 0 := by
        rcases h i (by omega) with ⟨_, b, _⟩ | ⟨b, h1, h2, h3, h4, _⟩ | ⟨a, h1, h2, h3, _⟩
        · exact b
        · rw [hm] at h4; exact absurd h4.symm (nI_mi1 (by omega))
        · rw [hm] at h3; exact absurd h3.symm (nI_mi1 (by omega))
      rw [h0] at hstep
      have hneg : mi1 < nI 0 := by decide
      simp (disch := omega) [w236_70, w236_71, w236_74, x236_75, w236_78, w236_80, x236_81, w236_84, w236_86, w236_87, w236_90, w236_91, w236_119, w236_120, w236_123, rt236, aw_st, ai_cls, ai_len, ai_p, ai_sw, ai_m, ai_c, ai_at, ai_isI, ai_isJ, ai_isA, ai_ld, ai_1i, ai_2i, ai_2l, ai_cn, ai_j, ai_set, ai_set2, ai_nl, ai_rs, ai_sm, Value.category, hk0, hk1, lits, litb, litm, litm2, List.getElem?_cons_zero, List.getElem?_cons_succ, or_n0, bit_r, fi0, fi1, fi2, fi3, nI_toInt, nI_add, pk_mul, nI_leI, nI_ltI, nI_eq, pk_sub, ib_nI, nI_clamp, va_up_self, va_up_ne, va_up_up, va_up_comm, pk_us, pk_un, upd_up, updL_up, pk_uLs, pk_uLn, b01_1, b01_0, b01_1s, b01_0s, or_b, mm200, mu200, mm201, mu201, mm202, mu202, mm203, mu203, mm204, mu204, mm205, mu205, mm206, mu206, mm207, mu207, mm208, mu208, mm209, mu209, mm210, mu210, mm211, mu211, mm212, mu212, mm213, mu213, mm214, mu214, mm215, mu215, mm216, mu216, mm217, mu217, mm218, mu218, mm219, mu219, mm220, mu220, mm221, mu221, mm222, mu222, mm223, mu223, mm224, mu224, mm225, mu225, mm226, mu226, mm227, mu227, mm228, mu228, mm229, mu229, mm230, mu230, hm, n0mi, hneg, show ¬ P ≤ i by omega]
      exact hstep
    · obtain ⟨m, w, hm8, e1, e2, e3⟩ := heardBy_eq (G := G) (d := d) (sl := sl) (Y := Y) hP (h i (by omega)) (by omega) hm
      have hneg : ¬ nI m < nI 0 := by rw [nI_ltI (by omega) (by omega)]; omega
      rw [e2] at hstep
      cases w
      · simp (disch := omega) [w236_70, w236_71, w236_74, x236_75, w236_78, w236_80, x236_81, w236_84, w236_86, w236_87, w236_94, w236_95, x236_97, w236_100, w236_103, w236_105, w236_108, w236_111, x236_112, w236_115, w236_117, w236_118, w236_119, w236_120, w236_123, rt236, aw_st, ai_cls, ai_len, ai_p, ai_sw, ai_m, ai_c, ai_at, ai_isI, ai_isJ, ai_isA, ai_ld, ai_1i, ai_2i, ai_2l, ai_cn, ai_j, ai_set, ai_set2, ai_nl, ai_rs, ai_sm, Value.category, hk0, hk1, lits, litb, litm, litm2, List.getElem?_cons_zero, List.getElem?_cons_succ, or_n0, bit_r, fi0, fi1, fi2, fi3, nI_toInt, nI_add, pk_mul, nI_leI, nI_ltI, nI_eq, pk_sub, ib_nI, nI_clamp, va_up_self, va_up_ne, va_up_up, va_up_comm, pk_us, pk_un, upd_up, updL_up, pk_uLs, pk_uLn, b01_1, b01_0, b01_1s, b01_0s, or_b, mm200, mu200, mm201, mu201, mm202, mu202, mm203, mu203, mm204, mu204, mm205, mu205, mm206, mu206, mm207, mu207, mm208, mu208, mm209, mu209, mm210, mu210, mm211, mu211, mm212, mu212, mm213, mu213, mm214, mu214, mm215, mu215, mm216, mu216, mm217, mu217, mm218, mu218, mm219, mu219, mm220, mu220, mm221, mu221, mm222, mu222, mm223, mu223, mm224, mu224, mm225, mu225, mm226, mu226, mm227, mu227, mm228, mu228, mm229, mu229, mm230, mu230, e1, e3, hneg, show ¬ P ≤ i by omega]
        simpa using hstep
      · simp (disch := omega) [w236_70, w236_71, w236_74, x236_75, w236_78, w236_80, x236_81, w236_84, w236_86, w236_87, w236_94, w236_95, x236_97, w236_100, w236_103, w236_105, w236_108, w236_111, x236_112, w236_115, w236_117, w236_118, w236_119, w236_120, w236_123, rt236, aw_st, ai_cls, ai_len, ai_p, ai_sw, ai_m, ai_c, ai_at, ai_isI, ai_isJ, ai_isA, ai_ld, ai_1i, ai_2i, ai_2l, ai_cn, ai_j, ai_set, ai_set2, ai_nl, ai_rs, ai_sm, Value.category, hk0, hk1, lits, litb, litm, litm2, List.getElem?_cons_zero, List.getElem?_cons_succ, or_n0, bit_r, fi0, fi1, fi2, fi3, nI_toInt, nI_add, pk_mul, nI_leI, nI_ltI, nI_eq, pk_sub, ib_nI, nI_clamp, va_up_self, va_up_ne, va_up_up, va_up_comm, pk_us, pk_un, upd_up, updL_up, pk_uLs, pk_uLn, b01_1, b01_0, b01_1s, b01_0s, or_b, mm200, mu200, mm201, mu201, mm202, mu202, mm203, mu203, mm204, mu204, mm205, mu205, mm206, mu206, mm207, mu207, mm208, mu208, mm209, mu209, mm210, mu210, mm211, mu211, mm212, mu212, mm213, mu213, mm214, mu214, mm215, mu215, mm216, mu216, mm217, mu217, mm218, mu218, mm219, mu219, mm220, mu220, mm221, mu221, mm222, mu222, mm223, mu223, mm224, mu224, mm225, mu225, mm226, mu226, mm227, mu227, mm228, mu228, mm229, mu229, mm230, mu230, e1, e3, hneg, show ¬ P ≤ i by omega]
        simpa using hstep
end RHL
