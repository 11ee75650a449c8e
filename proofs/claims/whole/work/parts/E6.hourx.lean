/-! HOUR: the reference, a level that is free -/
section RHX
variable {G : ai_G} {d sl : Nat} {Y : mY} {P S p : Nat} {l k : Nat → Nat → Int32}
theorem add_sub_same (a b : Int32) : a + b - b = a := by
  rw [Int32.sub_eq_add_neg, Int32.add_assoc, Int32.add_right_neg, Int32.add_zero]
theorem HR_neg {hw mt pr : Nat → Int32} {i : Nat} (h : HR hw mt pr P p) (hP : P ≤ 8) (hi : i < P) (hn : mt i < nI 0) : mt i = mi1 := by
  rcases h i hi with ⟨a, b, c⟩ | ⟨b, h1, h2, h3, h4, h5⟩ | ⟨a, h1, h2, h3, h4, h5, h6⟩
  · exact a
  · rw [h4, nI_ltI (by omega) (by omega)] at hn; omega
  · rw [h3, nI_ltI (by omega) (by omega)] at hn; omega
theorem pairX_o {X : mX} {v j : Nat} {b : Bool} (h : ¬ j = 211) : pairX X p v b j = X j := by
  unfold pairX
  split
  · rfl
  · rw [va_up_ne _ _ h]
theorem okW_at {mt : Nat → Int32} {v : Nat} (h : okW l k P mt p v = true) (h0 : ¬ v = 0) : p < (v - 1) / 2 ∧ (v - 1) / 2 < P ∧ mt ((v - 1) / 2) < nI 0 := by
  unfold okW at h
  have h := of_decide_eq_true h
  rcases h with h | h
  · exact absurd h h0
  · exact ⟨h.1, h.2.1, h.2.2.1⟩
theorem pair_back {X X' : mX} {mt : Nat → Int32} {v : Nat} (hv : v = 0 ∨ okW l k P mt p v = true) (hm : mt p = mi1) (hq : ∀ i, i < P → mt i < nI 0 → mt i = mi1) (h1 : X 211 = mt) (h2 : X' 211 = pairX X p v true 211) : pairX X' p v false 211 = mt := by
  by_cases h0 : v = 0
  · unfold pairX at h2 ⊢
    rw [if_pos h0] at h2 ⊢
    rw [h2, h1]
  · obtain ⟨a, b, c⟩ := okW_at (hv.resolve_left h0) h0
    have e := hq _ b c
    unfold pairX at h2 ⊢
    rw [if_neg h0] at h2 ⊢
    rw [va_up_self, h2, va_up_self, h1]
    funext j
    by_cases j1 : j = (v - 1) / 2
    · rw [j1, pk_us, e]; rfl
    · by_cases j2 : j = p
      · rw [j2, pk_un (by omega), pk_us, hm]; rfl
      · rw [pk_un j1, pk_un j2, pk_un j1, pk_un j2]
theorem pair_HR {X : mX} {mt pr : Nat → Int32} {v : Nat} (hP : P ≤ 8) (hp : p < P) (hv : v = 0 ∨ okW l k P mt p v = true) (h : HR (X 210) mt pr P p) (hm : mt p = mi1) (h1 : X 211 = mt) (h10 : X 210 p = nI v) : HR (X 210) (pairX X p v true 211) (nwP pr p v) P (p + 1) := by
  have hcg : ∀ i, i < p + 1 → X 210 i = upd (X 210) p (nI v) i := fun i _ => by
    by_cases e : i = p
    · rw [e, pk_us]; exact h10
    · rw [pk_un e]
  by_cases h0 : v = 0
  · subst h0
    have e1 : pairX X p 0 true = X := by unfold pairX; rw [if_pos rfl]
    have e2 : nwP pr p 0 = pr := by unfold nwP; rw [if_pos rfl]
    rw [e1, e2, h1]
    exact HR_cg (HR_idle h hm hP) hcg
  · obtain ⟨a, b, c⟩ := okW_at (hv.resolve_left h0) h0
    have e : pairX X p v true 211 = upd (upd mt p (nI ((v - 1) / 2))) ((v - 1) / 2) (nI p) := by
      unfold pairX
      rw [if_neg h0, va_up_self, h1]
      rfl
    rw [e]
    exact HR_cg (HR_pair h hm hP a b (HR_neg h hP b c) (by omega)) hcg
set_option maxHeartbeats 16000000 in
theorem ways {Q : List Value → Nat → Nat → ai_M → Prop} {T : Int32 → (Nat → Int32) → Zh → Zh} {pr mt : Nat → Int32} {met : Int32} (hP : P ≤ 8) (hp : p < P) (ih : LV G d sl Y P S l k (p + 1) T) (hm : mt p = mi1) : ∀ (N r v : Nat) (X : mX) (z : Zh) (x5 : Int32), r ≤ N → v + r = 16 → (v = 0 ∨ okW l k P mt p v = true) → LSb (X 201) l → KS (X 201) k P S → HR (X 210) mt pr P p → X 211 = mt → X 210 p = nI v → ZR X z P → (∀ X' v5, FH X X' p → ZR X' (hV T l k P mt pr p met r (v + 1) (T (met + metV l p v) (nwP pr p v) z)) P → aw ET G (d + 2) 236 47 [some (.ref 199), some (.int (nI P)), some (.int (hV T l k P mt pr p met r (v + 1) (T (met + metV l p v) (nwP pr p v) z)).2), some (.int met), some (.int (lvlI p)), v5] [] 231 sl (mem X' Y) Q) → aw ET G (d + 2) 236 253 [some (.ref 199), some (.int (nI P)), some (.int z.2), some (.int met), some (.int (nI p)), some (.int x5)] [] 231 sl (mem X Y) Q := by
  intro N
  induction N with
  | zero =>
    intro r v X z x5 hr hvr hv hL hk h h11 h10 hz hQ
    have hme := fun (Q : List Value → Nat → Nat → ai_M → Prop) => met_eq (G := G) (d := d + 1) (sl := sl) (Q := Q) (X := X) (Y := Y) hL (show p < 8 by omega) h10 (show v < 17 by omega)
    have hpa := fun (Q : List Value → Nat → Nat → ai_M → Prop) => pairs_1 (G := G) (d := d + 1) (sl := sl) (Q := Q) (X := X) (Y := Y) (show p < 8 by omega) h10 (show v < 17 by omega)
    have nv : ¬ nI v = mi1 := nI_mi1 (by omega)
    have e210 : pairX X p v true 210 = X 210 := pairX_o (by omega)
    have e201 : pairX X p v true 201 = X 201 := pairX_o (by omega)
    simp (disch := omega) [w236_253, x236_254, w236_257, w236_259, w236_260, w236_261, w236_264, w236_267, w236_270, w236_271, w236_272, x236_274, w236_277, w236_278, w236_279, w236_280, w236_282, x236_283, rt236, aw_st, ai_cls, ai_len, ai_p, ai_sw, ai_m, ai_c, ai_at, ai_isI, ai_isJ, ai_isA, ai_ld, ai_1i, ai_2i, ai_2l, ai_cn, ai_j, ai_set, ai_set2, ai_nl, ai_rs, ai_sm, Value.category, hk0, hk1, lits, litb, litm, litm2, List.getElem?_cons_zero, List.getElem?_cons_succ, or_n0, bit_r, fi0, fi1, fi2, fi3, nI_toInt, nI_add, pk_mul, nI_leI, nI_ltI, nI_eq, pk_sub, ib_nI, nI_clamp, va_up_self, va_up_ne, va_up_up, va_up_comm, pk_us, pk_un, upd_up, updL_up, pk_uLs, pk_uLn, b01_1, b01_0, b01_1s, b01_0s, or_b, mm200, mu200, mm201, mu201, mm202, mu202, mm203, mu203, mm204, mu204, mm205, mu205, mm206, mu206, mm207, mu207, mm208, mu208, mm209, mu209, mm210, mu210, mm211, mu211, mm212, mu212, mm213, mu213, mm214, mu214, mm215, mu215, mm216, mu216, mm217, mu217, mm218, mu218, mm219, mu219, mm220, mu220, mm221, mu221, mm222, mu222, mm223, mu223, mm224, mu224, mm225, mu225, mm226, mu226, mm227, mu227, mm228, mu228, mm229, mu229, mm230, mu230, h10, nv, hme, hpa]
    rw [open_286 hP hp]
    refine ih Q _ (nwP pr p v) (met + metV l p v) z _ ?_ ?_ ?_ (fun c => opX_p c) ?_ (fun X' w5 f zz => ?_)
    · have e : opX (pairX X p v true) P p 201 = X 201 := by rw [opX_at (by omega)]; exact e201
      rw [e]; exact hL
    · have e : opX (pairX X p v true) P p 201 = X 201 := by rw [opX_at (by omega)]; exact e201
      rw [e]; exact hk
    · have e : opX (pairX X p v true) P p 211 = pairX X p v true 211 := opX_at (by omega)
      rw [e]
      exact HR_cg (pair_HR hP hp hv h hm h11 h10) (fun i hi => by rw [opX_lo hi, e210])
    · have e : opX (pairX X p v true) P p 212 = X 212 := by rw [opX_at (by omega)]; exact pairX_o (by omega)
      exact ZR_cg hz e
    · have x10 : X' 210 p = nI v := by rw [f.2 p (by omega), opX_lo (by omega), e210]; exact h10
      have x201 : X' 201 = X 201 := by rw [f.1 201 (by omega) (by omega), opX_at (by omega)]; exact e201
      have x211 : X' 211 = pairX X p v true 211 := by rw [f.1 211 (by omega) (by omega), opX_at (by omega)]
      have hb : pairX X' p v false 211 = mt := pair_back hv hm (fun i hi hn => HR_neg h hP hi hn) h11 x211
      have y201 : pairX X' p v false 201 = X 201 := by rw [pairX_o (by omega)]; exact x201
      have y10 : pairX X' p v false 210 p = nI v := by rw [pairX_o (by omega)]; exact x10
      have hme2 := fun (Q : List Value → Nat → Nat → ai_M → Prop) => met_eq (G := G) (d := d + 1) (sl := sl) (Q := Q) (X := X') (Y := Y) (l := l) (by rw [x201]; exact hL) (show p < 8 by omega) x10 (show v < 17 by omega)
      have hpa2 := fun (Q : List Value → Nat → Nat → ai_M → Prop) => pairs_0 (G := G) (d := d + 1) (sl := sl) (Q := Q) (X := X') (Y := Y) (show p < 8 by omega) x10 (show v < 17 by omega)
      have hwy := fun (Q : List Value → Nat → Nat → ai_M → Prop) => way_eq (G := G) (d := d) (sl := sl) (Q := Q) (X := pairX X' p v false) (Y := Y) (l := l) (k := k) (P := P) (S := S) (by rw [y201]; exact hL) (by rw [y201]; exact hk) hp (show v < 17 by omega)
      rw [hb] at hwy
      have er : 16 - v = r := by omega
      rw [er] at hwy
      rw [lvl_s, w236_47]
      simp (disch := omega) [w236_49, w236_52, w236_54, w236_55, w236_132, x236_133, w236_136, w236_138, w236_139, w236_140, w236_143, w236_144, w236_147, w236_148, w236_150, w236_152, w236_194, x236_195, w236_198, w236_200, w236_201, w236_203, w236_212, w236_214, w236_217, w236_218, w236_219, x236_221, w236_224, w236_225, w236_226, w236_227, w236_229, x236_230, rt236, aw_st, ai_cls, ai_len, ai_p, ai_sw, ai_m, ai_c, ai_at, ai_isI, ai_isJ, ai_isA, ai_ld, ai_1i, ai_2i, ai_2l, ai_cn, ai_j, ai_set, ai_set2, ai_nl, ai_rs, ai_sm, Value.category, hk0, hk1, lits, litb, litm, litm2, List.getElem?_cons_zero, List.getElem?_cons_succ, or_n0, bit_r, fi0, fi1, fi2, fi3, nI_toInt, nI_add, pk_mul, nI_leI, nI_ltI, nI_eq, pk_sub, ib_nI, nI_clamp, va_up_self, va_up_ne, va_up_up, va_up_comm, pk_us, pk_un, upd_up, updL_up, pk_uLs, pk_uLn, b01_1, b01_0, b01_1s, b01_0s, or_b, mm200, mu200, mm201, mu201, mm202, mu202, mm203, mu203, mm204, mu204, mm205, mu205, mm206, mu206, mm207, mu207, mm208, mu208, mm209, mu209, mm210, mu210, mm211, mu211, mm212, mu212, mm213, mu213, mm214, mu214, mm215, mu215, mm216, mu216, mm217, mu217, mm218, mu218, mm219, mu219, mm220, mu220, mm221, mu221, mm222, mu222, mm223, mu223, mm224, mu224, mm225, mu225, mm226, mu226, mm227, mu227, mm228, mu228, mm229, mu229, mm230, mu230, x10, nv, hme2, hpa2, add_sub_same, show ¬ p = P by omega, show ¬ v = 17 by omega]
      simp (disch := omega) [w236_233, x236_234, w236_237, w236_239, w236_240, w236_242, x236_243, w236_246, w236_248, x236_249, rt236, aw_st, ai_cls, ai_len, ai_p, ai_sw, ai_m, ai_c, ai_at, ai_isI, ai_isJ, ai_isA, ai_ld, ai_1i, ai_2i, ai_2l, ai_cn, ai_j, ai_set, ai_set2, ai_nl, ai_rs, ai_sm, Value.category, hk0, hk1, lits, litb, litm, litm2, List.getElem?_cons_zero, List.getElem?_cons_succ, or_n0, bit_r, fi0, fi1, fi2, fi3, nI_toInt, nI_add, pk_mul, nI_leI, nI_ltI, nI_eq, pk_sub, ib_nI, nI_clamp, va_up_self, va_up_ne, va_up_up, va_up_comm, pk_us, pk_un, upd_up, updL_up, pk_uLs, pk_uLn, b01_1, b01_0, b01_1s, b01_0s, or_b, mm200, mu200, mm201, mu201, mm202, mu202, mm203, mu203, mm204, mu204, mm205, mu205, mm206, mu206, mm207, mu207, mm208, mu208, mm209, mu209, mm210, mu210, mm211, mu211, mm212, mu212, mm213, mu213, mm214, mu214, mm215, mu215, mm216, mu216, mm217, mu217, mm218, mu218, mm219, mu219, mm220, mu220, mm221, mu221, mm222, mu222, mm223, mu223, mm224, mu224, mm225, mu225, mm226, mu226, mm227, mu227, mm228, mu228, mm229, mu229, mm230, mu230, y10, hwy]
      have ff : FH X (pairX X' p v false) p := ⟨fun j a b => by
        by_cases e : j = 211
        · subst e; rw [hb, h11]
        · rw [pairX_o e, f.1 j a b, opX_at a, pairX_o e], fun i hi => by rw [pairX_o (by omega), f.2 i (by omega), opX_lo (by omega), e210]⟩
      have zz2 : ZR (pairX X' p v false) (T (met + metV l p v) (nwP pr p v) z) P := ZR_cg zz (pairX_o (by omega))
      generalize T (met + metV l p v) (nwP pr p v) z = z2 at *
      generalize pairX X' p v false = X2 at *
      rcases nxW_ok (l := l) (k := k) (P := P) (mt := mt) (p := p) (pr := pr) (T := T) (met := met) r (v + 1) with ⟨na, nb⟩ | ⟨w, w1, w2, w3, w4, w5⟩
      · rw [nb] at hQ
        have := hQ (va_up X2 210 (upd (X2 210) p mi1)) (some (.int (nI 0))) (ff.tr (FH_210 (fun i hi => by rw [pk_un (by omega)]))) (ZR_cg zz2 (va_up_ne _ _ (by omega)))
        rw [na]
        simp (disch := omega) [w236_252, w236_253, x236_254, w236_257, w236_259, w236_260, w236_261, w236_264, w236_267, rt236, aw_st, ai_cls, ai_len, ai_p, ai_sw, ai_m, ai_c, ai_at, ai_isI, ai_isJ, ai_isA, ai_ld, ai_1i, ai_2i, ai_2l, ai_cn, ai_j, ai_set, ai_set2, ai_nl, ai_rs, ai_sm, Value.category, hk0, hk1, lits, litb, litm, litm2, List.getElem?_cons_zero, List.getElem?_cons_succ, or_n0, bit_r, fi0, fi1, fi2, fi3, nI_toInt, nI_add, pk_mul, nI_leI, nI_ltI, nI_eq, pk_sub, ib_nI, nI_clamp, va_up_self, va_up_ne, va_up_up, va_up_comm, pk_us, pk_un, upd_up, updL_up, pk_uLs, pk_uLn, b01_1, b01_0, b01_1s, b01_0s, or_b, mm200, mu200, mm201, mu201, mm202, mu202, mm203, mu203, mm204, mu204, mm205, mu205, mm206, mu206, mm207, mu207, mm208, mu208, mm209, mu209, mm210, mu210, mm211, mu211, mm212, mu212, mm213, mu213, mm214, mu214, mm215, mu215, mm216, mu216, mm217, mu217, mm218, mu218, mm219, mu219, mm220, mu220, mm221, mu221, mm222, mu222, mm223, mu223, mm224, mu224, mm225, mu225, mm226, mu226, mm227, mu227, mm228, mu228, mm229, mu229, mm230, mu230, lvl_dec]
        exact this
      · rw [w5] at hQ
        have er2 : v + 1 + r - (w + 1) = 16 - w := by omega
        rw [er2] at hQ
        rw [w4]
        simp (disch := omega) [w236_252, rt236, aw_st, ai_cls, ai_len, ai_p, ai_sw, ai_m, ai_c, ai_at, ai_isI, ai_isJ, ai_isA, ai_ld, ai_1i, ai_2i, ai_2l, ai_cn, ai_j, ai_set, ai_set2, ai_nl, ai_rs, ai_sm, Value.category, hk0, hk1, lits, litb, litm, litm2, List.getElem?_cons_zero, List.getElem?_cons_succ, or_n0, bit_r, fi0, fi1, fi2, fi3, nI_toInt, nI_add, pk_mul, nI_leI, nI_ltI, nI_eq, pk_sub, ib_nI, nI_clamp, va_up_self, va_up_ne, va_up_up, va_up_comm, pk_us, pk_un, upd_up, updL_up, pk_uLs, pk_uLn, b01_1, b01_0, b01_1s, b01_0s, or_b, mm200, mu200, mm201, mu201, mm202, mu202, mm203, mu203, mm204, mu204, mm205, mu205, mm206, mu206, mm207, mu207, mm208, mu208, mm209, mu209, mm210, mu210, mm211, mu211, mm212, mu212, mm213, mu213, mm214, mu214, mm215, mu215, mm216, mu216, mm217, mu217, mm218, mu218, mm219, mu219, mm220, mu220, mm221, mu221, mm222, mu222, mm223, mu223, mm224, mu224, mm225, mu225, mm226, mu226, mm227, mu227, mm228, mu228, mm229, mu229, mm230, mu230]
        exact absurd w2 (by omega)
  | succ N ihN =>
    intro r v X z x5 hr hvr hv hL hk h h11 h10 hz hQ
    have hme := fun (Q : List Value → Nat → Nat → ai_M → Prop) => met_eq (G := G) (d := d + 1) (sl := sl) (Q := Q) (X := X) (Y := Y) hL (show p < 8 by omega) h10 (show v < 17 by omega)
    have hpa := fun (Q : List Value → Nat → Nat → ai_M → Prop) => pairs_1 (G := G) (d := d + 1) (sl := sl) (Q := Q) (X := X) (Y := Y) (show p < 8 by omega) h10 (show v < 17 by omega)
    have nv : ¬ nI v = mi1 := nI_mi1 (by omega)
    have e210 : pairX X p v true 210 = X 210 := pairX_o (by omega)
    have e201 : pairX X p v true 201 = X 201 := pairX_o (by omega)
    simp (disch := omega) [w236_253, x236_254, w236_257, w236_259, w236_260, w236_261, w236_264, w236_267, w236_270, w236_271, w236_272, x236_274, w236_277, w236_278, w236_279, w236_280, w236_282, x236_283, rt236, aw_st, ai_cls, ai_len, ai_p, ai_sw, ai_m, ai_c, ai_at, ai_isI, ai_isJ, ai_isA, ai_ld, ai_1i, ai_2i, ai_2l, ai_cn, ai_j, ai_set, ai_set2, ai_nl, ai_rs, ai_sm, Value.category, hk0, hk1, lits, litb, litm, litm2, List.getElem?_cons_zero, List.getElem?_cons_succ, or_n0, bit_r, fi0, fi1, fi2, fi3, nI_toInt, nI_add, pk_mul, nI_leI, nI_ltI, nI_eq, pk_sub, ib_nI, nI_clamp, va_up_self, va_up_ne, va_up_up, va_up_comm, pk_us, pk_un, upd_up, updL_up, pk_uLs, pk_uLn, b01_1, b01_0, b01_1s, b01_0s, or_b, mm200, mu200, mm201, mu201, mm202, mu202, mm203, mu203, mm204, mu204, mm205, mu205, mm206, mu206, mm207, mu207, mm208, mu208, mm209, mu209, mm210, mu210, mm211, mu211, mm212, mu212, mm213, mu213, mm214, mu214, mm215, mu215, mm216, mu216, mm217, mu217, mm218, mu218, mm219, mu219, mm220, mu220, mm221, mu221, mm222, mu222, mm223, mu223, mm224, mu224, mm225, mu225, mm226, mu226, mm227, mu227, mm228, mu228, mm229, mu229, mm230, mu230, h10, nv, hme, hpa]
    rw [open_286 hP hp]
    refine ih Q _ (nwP pr p v) (met + metV l p v) z _ ?_ ?_ ?_ (fun c => opX_p c) ?_ (fun X' w5 f zz => ?_)
    · have e : opX (pairX X p v true) P p 201 = X 201 := by rw [opX_at (by omega)]; exact e201
      rw [e]; exact hL
    · have e : opX (pairX X p v true) P p 201 = X 201 := by rw [opX_at (by omega)]; exact e201
      rw [e]; exact hk
    · have e : opX (pairX X p v true) P p 211 = pairX X p v true 211 := opX_at (by omega)
      rw [e]
      exact HR_cg (pair_HR hP hp hv h hm h11 h10) (fun i hi => by rw [opX_lo hi, e210])
    · have e : opX (pairX X p v true) P p 212 = X 212 := by rw [opX_at (by omega)]; exact pairX_o (by omega)
      exact ZR_cg hz e
    · have x10 : X' 210 p = nI v := by rw [f.2 p (by omega), opX_lo (by omega), e210]; exact h10
      have x201 : X' 201 = X 201 := by rw [f.1 201 (by omega) (by omega), opX_at (by omega)]; exact e201
      have x211 : X' 211 = pairX X p v true 211 := by rw [f.1 211 (by omega) (by omega), opX_at (by omega)]
      have hb : pairX X' p v false 211 = mt := pair_back hv hm (fun i hi hn => HR_neg h hP hi hn) h11 x211
      have y201 : pairX X' p v false 201 = X 201 := by rw [pairX_o (by omega)]; exact x201
      have y10 : pairX X' p v false 210 p = nI v := by rw [pairX_o (by omega)]; exact x10
      have hme2 := fun (Q : List Value → Nat → Nat → ai_M → Prop) => met_eq (G := G) (d := d + 1) (sl := sl) (Q := Q) (X := X') (Y := Y) (l := l) (by rw [x201]; exact hL) (show p < 8 by omega) x10 (show v < 17 by omega)
      have hpa2 := fun (Q : List Value → Nat → Nat → ai_M → Prop) => pairs_0 (G := G) (d := d + 1) (sl := sl) (Q := Q) (X := X') (Y := Y) (show p < 8 by omega) x10 (show v < 17 by omega)
      have hwy := fun (Q : List Value → Nat → Nat → ai_M → Prop) => way_eq (G := G) (d := d) (sl := sl) (Q := Q) (X := pairX X' p v false) (Y := Y) (l := l) (k := k) (P := P) (S := S) (by rw [y201]; exact hL) (by rw [y201]; exact hk) hp (show v < 17 by omega)
      rw [hb] at hwy
      have er : 16 - v = r := by omega
      rw [er] at hwy
      rw [lvl_s, w236_47]
      simp (disch := omega) [w236_49, w236_52, w236_54, w236_55, w236_132, x236_133, w236_136, w236_138, w236_139, w236_140, w236_143, w236_144, w236_147, w236_148, w236_150, w236_152, w236_194, x236_195, w236_198, w236_200, w236_201, w236_203, w236_212, w236_214, w236_217, w236_218, w236_219, x236_221, w236_224, w236_225, w236_226, w236_227, w236_229, x236_230, rt236, aw_st, ai_cls, ai_len, ai_p, ai_sw, ai_m, ai_c, ai_at, ai_isI, ai_isJ, ai_isA, ai_ld, ai_1i, ai_2i, ai_2l, ai_cn, ai_j, ai_set, ai_set2, ai_nl, ai_rs, ai_sm, Value.category, hk0, hk1, lits, litb, litm, litm2, List.getElem?_cons_zero, List.getElem?_cons_succ, or_n0, bit_r, fi0, fi1, fi2, fi3, nI_toInt, nI_add, pk_mul, nI_leI, nI_ltI, nI_eq, pk_sub, ib_nI, nI_clamp, va_up_self, va_up_ne, va_up_up, va_up_comm, pk_us, pk_un, upd_up, updL_up, pk_uLs, pk_uLn, b01_1, b01_0, b01_1s, b01_0s, or_b, mm200, mu200, mm201, mu201, mm202, mu202, mm203, mu203, mm204, mu204, mm205, mu205, mm206, mu206, mm207, mu207, mm208, mu208, mm209, mu209, mm210, mu210, mm211, mu211, mm212, mu212, mm213, mu213, mm214, mu214, mm215, mu215, mm216, mu216, mm217, mu217, mm218, mu218, mm219, mu219, mm220, mu220, mm221, mu221, mm222, mu222, mm223, mu223, mm224, mu224, mm225, mu225, mm226, mu226, mm227, mu227, mm228, mu228, mm229, mu229, mm230, mu230, x10, nv, hme2, hpa2, add_sub_same, show ¬ p = P by omega, show ¬ v = 17 by omega]
      simp (disch := omega) [w236_233, x236_234, w236_237, w236_239, w236_240, w236_242, x236_243, w236_246, w236_248, x236_249, rt236, aw_st, ai_cls, ai_len, ai_p, ai_sw, ai_m, ai_c, ai_at, ai_isI, ai_isJ, ai_isA, ai_ld, ai_1i, ai_2i, ai_2l, ai_cn, ai_j, ai_set, ai_set2, ai_nl, ai_rs, ai_sm, Value.category, hk0, hk1, lits, litb, litm, litm2, List.getElem?_cons_zero, List.getElem?_cons_succ, or_n0, bit_r, fi0, fi1, fi2, fi3, nI_toInt, nI_add, pk_mul, nI_leI, nI_ltI, nI_eq, pk_sub, ib_nI, nI_clamp, va_up_self, va_up_ne, va_up_up, va_up_comm, pk_us, pk_un, upd_up, updL_up, pk_uLs, pk_uLn, b01_1, b01_0, b01_1s, b01_0s, or_b, mm200, mu200, mm201, mu201, mm202, mu202, mm203, mu203, mm204, mu204, mm205, mu205, mm206, mu206, mm207, mu207, mm208, mu208, mm209, mu209, mm210, mu210, mm211, mu211, mm212, mu212, mm213, mu213, mm214, mu214, mm215, mu215, mm216, mu216, mm217, mu217, mm218, mu218, mm219, mu219, mm220, mu220, mm221, mu221, mm222, mu222, mm223, mu223, mm224, mu224, mm225, mu225, mm226, mu226, mm227, mu227, mm228, mu228, mm229, mu229, mm230, mu230, y10, hwy]
      have ff : FH X (pairX X' p v false) p := ⟨fun j a b => by
        by_cases e : j = 211
        · subst e; rw [hb, h11]
        · rw [pairX_o e, f.1 j a b, opX_at a, pairX_o e], fun i hi => by rw [pairX_o (by omega), f.2 i (by omega), opX_lo (by omega), e210]⟩
      have zz2 : ZR (pairX X' p v false) (T (met + metV l p v) (nwP pr p v) z) P := ZR_cg zz (pairX_o (by omega))
      generalize T (met + metV l p v) (nwP pr p v) z = z2 at *
      generalize pairX X' p v false = X2 at *
      rcases nxW_ok (l := l) (k := k) (P := P) (mt := mt) (p := p) (pr := pr) (T := T) (met := met) r (v + 1) with ⟨na, nb⟩ | ⟨w, w1, w2, w3, w4, w5⟩
      · rw [nb] at hQ
        have := hQ (va_up X2 210 (upd (X2 210) p mi1)) (some (.int (nI 0))) (ff.tr (FH_210 (fun i hi => by rw [pk_un (by omega)]))) (ZR_cg zz2 (va_up_ne _ _ (by omega)))
        rw [na]
        simp (disch := omega) [w236_252, w236_253, x236_254, w236_257, w236_259, w236_260, w236_261, w236_264, w236_267, rt236, aw_st, ai_cls, ai_len, ai_p, ai_sw, ai_m, ai_c, ai_at, ai_isI, ai_isJ, ai_isA, ai_ld, ai_1i, ai_2i, ai_2l, ai_cn, ai_j, ai_set, ai_set2, ai_nl, ai_rs, ai_sm, Value.category, hk0, hk1, lits, litb, litm, litm2, List.getElem?_cons_zero, List.getElem?_cons_succ, or_n0, bit_r, fi0, fi1, fi2, fi3, nI_toInt, nI_add, pk_mul, nI_leI, nI_ltI, nI_eq, pk_sub, ib_nI, nI_clamp, va_up_self, va_up_ne, va_up_up, va_up_comm, pk_us, pk_un, upd_up, updL_up, pk_uLs, pk_uLn, b01_1, b01_0, b01_1s, b01_0s, or_b, mm200, mu200, mm201, mu201, mm202, mu202, mm203, mu203, mm204, mu204, mm205, mu205, mm206, mu206, mm207, mu207, mm208, mu208, mm209, mu209, mm210, mu210, mm211, mu211, mm212, mu212, mm213, mu213, mm214, mu214, mm215, mu215, mm216, mu216, mm217, mu217, mm218, mu218, mm219, mu219, mm220, mu220, mm221, mu221, mm222, mu222, mm223, mu223, mm224, mu224, mm225, mu225, mm226, mu226, mm227, mu227, mm228, mu228, mm229, mu229, mm230, mu230, lvl_dec]
        exact this
      · rw [w5] at hQ
        have er2 : v + 1 + r - (w + 1) = 16 - w := by omega
        rw [er2] at hQ
        rw [w4]
        simp (disch := omega) [w236_252, rt236, aw_st, ai_cls, ai_len, ai_p, ai_sw, ai_m, ai_c, ai_at, ai_isI, ai_isJ, ai_isA, ai_ld, ai_1i, ai_2i, ai_2l, ai_cn, ai_j, ai_set, ai_set2, ai_nl, ai_rs, ai_sm, Value.category, hk0, hk1, lits, litb, litm, litm2, List.getElem?_cons_zero, List.getElem?_cons_succ, or_n0, bit_r, fi0, fi1, fi2, fi3, nI_toInt, nI_add, pk_mul, nI_leI, nI_ltI, nI_eq, pk_sub, ib_nI, nI_clamp, va_up_self, va_up_ne, va_up_up, va_up_comm, pk_us, pk_un, upd_up, updL_up, pk_uLs, pk_uLn, b01_1, b01_0, b01_1s, b01_0s, or_b, mm200, mu200, mm201, mu201, mm202, mu202, mm203, mu203, mm204, mu204, mm205, mu205, mm206, mu206, mm207, mu207, mm208, mu208, mm209, mu209, mm210, mu210, mm211, mu211, mm212, mu212, mm213, mu213, mm214, mu214, mm215, mu215, mm216, mu216, mm217, mu217, mm218, mu218, mm219, mu219, mm220, mu220, mm221, mu221, mm222, mu222, mm223, mu223, mm224, mu224, mm225, mu225, mm226, mu226, mm227, mu227, mm228, mu228, mm229, mu229, mm230, mu230]
        refine ihN (16 - w) w (va_up X2 210 (upd (X2 210) p (nI w))) z2 _ (by omega) (by omega) (Or.inr w3) (by rw [va_up_ne _ _ (by omega), y201]; exact hL) (by rw [va_up_ne _ _ (by omega), y201]; exact hk) ?_ (by rw [va_up_ne _ _ (by omega), hb]) (by rw [va_up_self, pk_us]) (ZR_cg zz2 (va_up_ne _ _ (by omega))) (fun X3 u5 f3 z3 => hQ X3 u5 ((ff.tr (FH_210 (fun i hi => by rw [pk_un (by omega)]))).tr f3) z3)
        rw [va_up_self]
        exact HR_cg h (fun i hi => by rw [pk_un (by omega)]; exact ff.2 i hi)
end RHX
