/-! A TOWN, the reference, I -/
section RTW
variable {G : ai_G} {d sl : Nat} {Q : List Value → Nat → Nat → ai_M → Prop} {Y : mY} {X : mX} {c : TC} {i P S : Nat} {D : TD}
theorem cA_gt (h : i ≤ c.2.1) (hk : 2 ≤ cK c i) : i < cA c i := tA_gt h hk
theorem sNum_gt {lo hi a i2 : Nat} (hi' : i ≤ c.2.1) (h : sNum c lo hi i = .inr (a, i2)) : i < i2 ∧ i2 ≤ c.2.1 := by
  obtain ⟨k, -, -, -, e⟩ := sNum_ok h
  subst e
  exact ⟨cA_gt hi' (by omega), cA_le hi'⟩
theorem cM_K (h : cM c i = true) : cK c i = 2 := by
  have : (decide (cK c i = 2) && decide (cY c i = 21)) = true := h
  simp only [Bool.and_eq_true, decide_eq_true_eq] at this
  exact this.1
theorem sNew_gt {nm : Nat → List Nat} {w : List Nat} {i2 : Nat} (hi' : i ≤ c.2.1) (h : sNew c nm P S i = .inr (w, i2)) : i < i2 ∧ i2 ≤ c.2.1 := by
  unfold sNew at h
  split at h
  · cases h
  · rename_i e
    split at h
    · cases h
    · cases h
      exact ⟨cA_gt hi' (by rw [cM_K (by simpa using e)]; omega), cA_le hi'⟩
theorem sOne_gt {nm : Nat → List Nat} {k : Nat} (hi' : i ≤ c.2.1) (h : sOne c nm P i = .inr k) : i < cA c i ∧ cA c i ≤ c.2.1 := ⟨cA_gt hi' (by rw [sOne_K h]; omega), cA_le hi'⟩
theorem sPerson_gt {i2 : Nat} {D2 : TD} (hi : i ≤ c.2.1) (hk : cK c i = 2) (h : sPerson c i D = .inr (i2, D2)) : i < i2 ∧ i2 ≤ c.2.1 := by
  have g0 := cA_gt hi (by omega)
  have l0 := cA_le hi
  unfold sPerson at h
  split at h
  · cases h
  · cases e1 : sNew c D.2.1 (iN (D.1 0)) (iN (D.1 1)) (cA c i) with
    | inl z => rw [e1] at h; cases h
    | inr z =>
      obtain ⟨w, i3⟩ := z
      rw [e1] at h
      have g1 := sNew_gt l0 e1
      cases e2 : sNum c 0 99 i3 with
      | inl z => simp only [e2] at h; cases h
      | inr z =>
        obtain ⟨a, i4⟩ := z
        simp only [e2] at h
        have g2 := sNum_gt g1.2 e2
        cases e3 : sNum c 0 24 i4 with
        | inl z => simp only [e3] at h; cases h
        | inr z =>
          obtain ⟨b, i5⟩ := z
          simp only [e3] at h
          have g3 := sNum_gt g2.2 e3
          cases e4 : sNum c 0 9 i5 with
          | inl z => simp only [e4] at h; cases h
          | inr z =>
            obtain ⟨b, i6⟩ := z
            simp only [e4] at h
            have g4 := sNum_gt g3.2 e4
            cases h
            omega
theorem sNote_gt {i2 : Nat} {D2 : TD} (hi : i ≤ c.2.1) (hk : cK c i = 2) (h : sNote c i D = .inr (i2, D2)) : i < i2 ∧ i2 ≤ c.2.1 := by
  have g0 := cA_gt hi (by omega)
  have l0 := cA_le hi
  unfold sNote at h
  cases e1 : sOne c D.2.1 (iN (D.1 0)) (cA c i) with
  | inl z => rw [e1] at h; cases h
  | inr a =>
    rw [e1] at h
    have g1 := sOne_gt l0 e1
    cases e2 : sOne c D.2.1 (iN (D.1 0)) (cA c (cA c i)) with
    | inl z => simp only [e2] at h; cases h
    | inr b =>
      simp only [e2] at h
      have g2 := sOne_gt g1.2 e2
      split at h
      · cases h
      · cases e3 : sNum c 1 99 (cA c (cA c (cA c i))) with
        | inl z => simp only [e3] at h; cases h
        | inr z =>
          obtain ⟨v, i5⟩ := z
          simp only [e3] at h
          have g3 := sNum_gt g2.2 e3
          cases h
          omega
theorem sStory_gt {i2 : Nat} {D2 : TD} (hi : i ≤ c.2.1) (hk : cK c i = 2) (h : sStory c i D = .inr (i2, D2)) : i < i2 ∧ i2 ≤ c.2.1 := by
  have g0 := cA_gt hi (by omega)
  have l0 := cA_le hi
  unfold sStory at h
  split at h
  · cases h
  · cases e1 : sNew c D.2.1 (iN (D.1 0)) (iN (D.1 1)) (cA c i) with
    | inl z => rw [e1] at h; cases h
    | inr z =>
      obtain ⟨w, i3⟩ := z
      rw [e1] at h
      have g1 := sNew_gt l0 e1
      cases e2 : sOne c D.2.1 (iN (D.1 0)) i3 with
      | inl z => simp only [e2] at h; cases h
      | inr a =>
        simp only [e2] at h
        have g2 := sOne_gt g1.2 e2
        cases e3 : sNum c 0 99 (cA c i3) with
        | inl z => simp only [e3] at h; cases h
        | inr z =>
          obtain ⟨b, i5⟩ := z
          simp only [e3] at h
          have g3 := sNum_gt g2.2 e3
          cases e4 : sNum c 0 9 i5 with
          | inl z => simp only [e4] at h; cases h
          | inr z =>
            obtain ⟨b, i6⟩ := z
            simp only [e4] at h
            have g4 := sNum_gt g3.2 e4
            cases h
            omega
theorem sMark_gt {i2 to : Nat} {D2 : TD} (hi : i ≤ c.2.1) (hk : cK c i = 2) (h : sMark c i to D = .inr (i2, D2)) : i < i2 ∧ i2 ≤ c.2.1 := by
  have g0 := cA_gt hi (by omega)
  have l0 := cA_le hi
  unfold sMark at h
  cases e1 : sOne c D.2.1 (iN (D.1 0)) (cA c i) with
  | inl z => rw [e1] at h; cases h
  | inr a =>
    rw [e1] at h
    have g1 := sOne_gt l0 e1
    simp only at h
    split at h
    · cases h
    · cases h
      omega
theorem sGift_gt {i2 : Nat} {D2 : TD} (hi : i ≤ c.2.1) (hk : cK c i = 2) (h : sGift c i D = .inr (i2, D2)) : i < i2 ∧ i2 ≤ c.2.1 := by
  have g0 := cA_gt hi (by omega)
  have l0 := cA_le hi
  unfold sGift at h
  split at h
  · cases h
  · cases e3 : sNum c 0 9 (cA c i) with
    | inl z => simp only [e3] at h; cases h
    | inr z =>
      obtain ⟨v, i5⟩ := z
      simp only [e3] at h
      have g3 := sNum_gt l0 e3
      cases h
      omega
theorem sRuin_gt {i2 : Nat} {D2 : TD} (hi : i ≤ c.2.1) (hk : cK c i = 2) (h : sRuin c i D = .inr (i2, D2)) : i < i2 ∧ i2 ≤ c.2.1 := by
  have g0 := cA_gt hi (by omega)
  have l0 := cA_le hi
  unfold sRuin at h
  split at h
  · cases h
  · cases e3 : sNum c 1 99 (cA c i) with
    | inl z => simp only [e3] at h; cases h
    | inr z =>
      obtain ⟨v, i5⟩ := z
      simp only [e3] at h
      have g3 := sNum_gt l0 e3
      cases h
      omega
theorem sLine_gt {i2 : Nat} {D2 : TD} (hi : i ≤ c.2.1) (h : sLine c i D = .inr (i2, D2)) : i < i2 ∧ i2 ≤ c.2.1 := by
  have kk : cY c i < 21 → cK c i = 2 := fun q => tY_lt q
  unfold sLine at h
  split at h
  · exact sPerson_gt hi (kk (by omega)) h
  · split at h
    · exact sNote_gt hi (kk (by omega)) h
    · split at h
      · exact sStory_gt hi (kk (by omega)) h
      · split at h
        · exact sMark_gt hi (kk (by omega)) h
        · split at h
          · exact sMark_gt hi (kk (by omega)) h
          · split at h
            · exact sGift_gt hi (kk (by omega)) h
            · split at h
              · exact sRuin_gt hi (kk (by omega)) h
              · cases h
/-- the frame of a TOWN's text: lines too -/
def RH (X : mX) (Y : mY) (X' : mX) (Y' : mY) : Prop := (∀ k, ¬ k = 199 → ¬ k = 202 → X' k = X k) ∧ (∀ k, ¬ k = 199 → ¬ k = 204 → Y' k = Y k) ∧ (∀ q, q < 16 → Y' 204 q = Y 204 q) ∧ (∀ j, ¬ j = 4 → ¬ (11 ≤ j ∧ j ≤ 16) → ¬ (18 ≤ j ∧ j ≤ 21) → X' 199 j = X 199 j)
theorem RF.rg {X' : mX} {Y' : mY} (h : RF X Y X' Y') : RH X Y X' Y' := ⟨h.1, h.2.1, h.2.2.1, fun j a b e => h.2.2.2 j a b (by omega) (by omega) (by omega)⟩
theorem RH.tr {X' X2 : mX} {Y' Y2 : mY} (h : RH X Y X' Y') (g : RH X' Y' X2 Y2) : RH X Y X2 Y2 := ⟨fun k a b => (g.1 k a b).trans (h.1 k a b), fun k a b => (g.2.1 k a b).trans (h.2.1 k a b), fun q a => (g.2.2.1 q a).trans (h.2.2.1 q a), fun j a b e => (g.2.2.2 j a b e).trans (h.2.2.2 j a b e)⟩
set_option maxHeartbeats 8000000 in
theorem rtown_loop {v1 : Int32} : ∀ (r i m : Nat) (D : TD) (X : mX) (Y : mY) (P S : Nat), c.2.1 < i + r → m ≤ i → (∀ k, k < 21 → Y 205 k = kl k) → RT X Y D P S → RDR c i (X 199) (Y 199) → OKr c X → i ≤ c.2.1 → X 199 19 = nI m → (∀ e j, sTown c r i m D = .inl (e, j) → ∀ X' Y', RH X Y X' Y' → X' 199 15 = nI e → X' 199 16 = nI (cP c j) → Q [.int (mi1 - nI (cP c j))] 231 sl (mem X' Y')) → (∀ m' D', sTown c r i m D = .inr (m', D') → ∀ X' Y' P' S', RT X' Y' D' P' S' → RH X Y X' Y' → X' 199 19 = nI m' → X' 199 15 = X 199 15 → aw ET G (d + 4) 182 109 [some (.ref 199), some (.int v1)] [] 231 sl (mem X' Y') Q) → aw ET G (d + 4) 182 66 [some (.ref 199), some (.int v1)] [] 231 sl (mem X Y) Q := by
  intro r
  induction r with
  | zero => intro i m D X Y P S hr hm hR hrt h ok hi; omega
  | succ r ih =>
    intro i m D X Y P S hr hm hR hrt h ok hi h19 hQ1 hQ2
    have f11 := h.2.2.2.1
    have hle := rkN_le (k := cK c i)
    have hn := ok.2.1
    rw [w182_66]
    by_cases e0 : cK c i = 0
    · have := hQ2 m D (by unfold sTown; rw [if_pos e0]) X Y P S hrt RF_refl.rg h19 rfl
      have hrk : rkN (cK c i) = 0 := rkN_0.mpr e0
      rw [hrk] at f11
      simp (disch := omega) [x182_67, w182_70, rt182, aw_st, ai_cls, ai_len, ai_p, ai_sw, ai_m, ai_c, ai_at, ai_isI, ai_isJ, ai_isA, ai_ld, ai_1i, ai_2i, ai_2l, ai_cn, ai_j, ai_set, ai_set2, ai_nl, ai_rs, ai_sm, Value.category, hk0, hk1, lits, litb, litm, litm2, List.getElem?_cons_zero, List.getElem?_cons_succ, or_n0, bit_r, fi0, fi1, fi2, fi3, nI_toInt, nI_add, pk_mul, nI_leI, nI_ltI, nI_eq, pk_sub, ib_nI, nI_clamp, va_up_self, va_up_ne, va_up_up, va_up_comm, pk_us, pk_un, upd_up, updL_up, pk_uLs, pk_uLn, b01_1, b01_0, b01_1s, b01_0s, or_b, mm200, mu200, mm201, mu201, mm202, mu202, mm203, mu203, mm204, mu204, mm205, mu205, mm206, mu206, mm207, mu207, mm208, mu208, mm209, mu209, mm210, mu210, mm211, mu211, mm212, mu212, mm213, mu213, mm214, mu214, mm215, mu215, mm216, mu216, mm217, mu217, mm218, mu218, mm219, mu219, mm220, mu220, mm221, mu221, mm222, mu222, mm223, mu223, mm224, mu224, mm225, mu225, mm226, mu226, mm227, mu227, mm228, mu228, mm229, mu229, mm230, mu230, f11]
      exact this
    · have es : sTown c (r + 1) i m D = match sLine c i D with
        | .inl e => .inl e
        | .inr (i2, D2) => if ¬ cK c i2 = 59 then .inl (1, i2) else sTown c r (cA c i2) (m + 1) D2 := by
        rw [sTown, if_neg e0]
        cases sLine c i D <;> rfl
      have hrk : ¬ rkN (cK c i) = 0 := fun q => e0 (rkN_0.mp q)
      simp (disch := omega) [x182_67, w182_70, w182_73, x182_74, rt182, aw_st, ai_cls, ai_len, ai_p, ai_sw, ai_m, ai_c, ai_at, ai_isI, ai_isJ, ai_isA, ai_ld, ai_1i, ai_2i, ai_2l, ai_cn, ai_j, ai_set, ai_set2, ai_nl, ai_rs, ai_sm, Value.category, hk0, hk1, lits, litb, litm, litm2, List.getElem?_cons_zero, List.getElem?_cons_succ, or_n0, bit_r, fi0, fi1, fi2, fi3, nI_toInt, nI_add, pk_mul, nI_leI, nI_ltI, nI_eq, pk_sub, ib_nI, nI_clamp, va_up_self, va_up_ne, va_up_up, va_up_comm, pk_us, pk_un, upd_up, updL_up, pk_uLs, pk_uLn, b01_1, b01_0, b01_1s, b01_0s, or_b, mm200, mu200, mm201, mu201, mm202, mu202, mm203, mu203, mm204, mu204, mm205, mu205, mm206, mu206, mm207, mu207, mm208, mu208, mm209, mu209, mm210, mu210, mm211, mu211, mm212, mu212, mm213, mu213, mm214, mu214, mm215, mu215, mm216, mu216, mm217, mu217, mm218, mu218, mm219, mu219, mm220, mu220, mm221, mu221, mm222, mu222, mm223, mu223, mm224, mu224, mm225, mu225, mm226, mu226, mm227, mu227, mm228, mu228, mm229, mu229, mm230, mu230, f11, hrk]
      refine rline_wp (d := d) hR hrt h ok hi (fun e j el X1 Y1 rf e15 e16 => ?_) (fun i2 D2 el hi2 X1 Y1 P1 S1 hrt1 rf r1 e15 => ?_)
      · have := hQ1 e j (by rw [es, el]) X1 Y1 rf.rg e15 e16
        simp (disch := omega) [w182_77, w182_89, w182_90, x182_91, w182_94, w182_95, rt182, aw_st, ai_cls, ai_len, ai_p, ai_sw, ai_m, ai_c, ai_at, ai_isI, ai_isJ, ai_isA, ai_ld, ai_1i, ai_2i, ai_2l, ai_cn, ai_j, ai_set, ai_set2, ai_nl, ai_rs, ai_sm, Value.category, hk0, hk1, lits, litb, litm, litm2, List.getElem?_cons_zero, List.getElem?_cons_succ, or_n0, bit_r, fi0, fi1, fi2, fi3, nI_toInt, nI_add, pk_mul, nI_leI, nI_ltI, nI_eq, pk_sub, ib_nI, nI_clamp, va_up_self, va_up_ne, va_up_up, va_up_comm, pk_us, pk_un, upd_up, updL_up, pk_uLs, pk_uLn, b01_1, b01_0, b01_1s, b01_0s, or_b, mm200, mu200, mm201, mu201, mm202, mu202, mm203, mu203, mm204, mu204, mm205, mu205, mm206, mu206, mm207, mu207, mm208, mu208, mm209, mu209, mm210, mu210, mm211, mu211, mm212, mu212, mm213, mu213, mm214, mu214, mm215, mu215, mm216, mu216, mm217, mu217, mm218, mu218, mm219, mu219, mm220, mu220, mm221, mu221, mm222, mu222, mm223, mu223, mm224, mu224, mm225, mu225, mm226, mu226, mm227, mu227, mm228, mu228, mm229, mu229, mm230, mu230, e16]
        exact this
      · have gt := sLine_gt hi el
        have ok1 : OKr c X1 := OKr_cg ok (rf.1 200 (by omega) (by omega))
        simp (disch := omega) [w182_77, w182_80, w182_81, x182_83, rt182, aw_st, ai_cls, ai_len, ai_p, ai_sw, ai_m, ai_c, ai_at, ai_isI, ai_isJ, ai_isA, ai_ld, ai_1i, ai_2i, ai_2l, ai_cn, ai_j, ai_set, ai_set2, ai_nl, ai_rs, ai_sm, Value.category, hk0, hk1, lits, litb, litm, litm2, List.getElem?_cons_zero, List.getElem?_cons_succ, or_n0, bit_r, fi0, fi1, fi2, fi3, nI_toInt, nI_add, pk_mul, nI_leI, nI_ltI, nI_eq, pk_sub, ib_nI, nI_clamp, va_up_self, va_up_ne, va_up_up, va_up_comm, pk_us, pk_un, upd_up, updL_up, pk_uLs, pk_uLn, b01_1, b01_0, b01_1s, b01_0s, or_b, mm200, mu200, mm201, mu201, mm202, mu202, mm203, mu203, mm204, mu204, mm205, mu205, mm206, mu206, mm207, mu207, mm208, mu208, mm209, mu209, mm210, mu210, mm211, mu211, mm212, mu212, mm213, mu213, mm214, mu214, mm215, mu215, mm216, mu216, mm217, mu217, mm218, mu218, mm219, mu219, mm220, mu220, mm221, mu221, mm222, mu222, mm223, mu223, mm224, mu224, mm225, mu225, mm226, mu226, mm227, mu227, mm228, mu228, mm229, mu229, mm230, mu230]
        refine Gsign (d := d + 1) (by omega) (by omega) r1 ok1 hi2 (fun q X2 Y2 y2 b15 b16 => ?_) (fun q X2 Y2 y2 r2 f2 => ?_)
        · have := hQ1 1 i2 (by rw [es, el]; simp only [q, not_false_eq_true, if_true]) X2 Y2 (rf.tr y2.rf).rg b15 b16
          simp (disch := omega) [w182_86, w182_89, w182_90, x182_91, w182_94, w182_95, rt182, aw_st, ai_cls, ai_len, ai_p, ai_sw, ai_m, ai_c, ai_at, ai_isI, ai_isJ, ai_isA, ai_ld, ai_1i, ai_2i, ai_2l, ai_cn, ai_j, ai_set, ai_set2, ai_nl, ai_rs, ai_sm, Value.category, hk0, hk1, lits, litb, litm, litm2, List.getElem?_cons_zero, List.getElem?_cons_succ, or_n0, bit_r, fi0, fi1, fi2, fi3, nI_toInt, nI_add, pk_mul, nI_leI, nI_ltI, nI_eq, pk_sub, ib_nI, nI_clamp, va_up_self, va_up_ne, va_up_up, va_up_comm, pk_us, pk_un, upd_up, updL_up, pk_uLs, pk_uLn, b01_1, b01_0, b01_1s, b01_0s, or_b, mm200, mu200, mm201, mu201, mm202, mu202, mm203, mu203, mm204, mu204, mm205, mu205, mm206, mu206, mm207, mu207, mm208, mu208, mm209, mu209, mm210, mu210, mm211, mu211, mm212, mu212, mm213, mu213, mm214, mu214, mm215, mu215, mm216, mu216, mm217, mu217, mm218, mu218, mm219, mu219, mm220, mu220, mm221, mu221, mm222, mu222, mm223, mu223, mm224, mu224, mm225, mu225, mm226, mu226, mm227, mu227, mm228, mu228, mm229, mu229, mm230, mu230, b16]
          exact this
        · have e2 : sTown c (r + 1) i m D = sTown c r (cA c i2) (m + 1) D2 := by rw [es, el]; simp only [q, not_true, if_false]
          rw [e2] at hQ1 hQ2
          have g2 := cA_gt hi2 (by omega)
          have rf2 := rf.tr y2.rf
          have x19 : X2 199 19 = nI m := by rw [rf2.2.2.2 19 (by omega) (by omega) (by omega) (by omega) (by omega)]; exact h19
          simp (disch := omega) [w182_86, w182_96, w182_97, x182_98, w182_101, w182_102, x182_103, w182_106, rt182, aw_st, ai_cls, ai_len, ai_p, ai_sw, ai_m, ai_c, ai_at, ai_isI, ai_isJ, ai_isA, ai_ld, ai_1i, ai_2i, ai_2l, ai_cn, ai_j, ai_set, ai_set2, ai_nl, ai_rs, ai_sm, Value.category, hk0, hk1, lits, litb, litm, litm2, List.getElem?_cons_zero, List.getElem?_cons_succ, or_n0, bit_r, fi0, fi1, fi2, fi3, nI_toInt, nI_add, pk_mul, nI_leI, nI_ltI, nI_eq, pk_sub, ib_nI, nI_clamp, va_up_self, va_up_ne, va_up_up, va_up_comm, pk_us, pk_un, upd_up, updL_up, pk_uLs, pk_uLn, b01_1, b01_0, b01_1s, b01_0s, or_b, mm200, mu200, mm201, mu201, mm202, mu202, mm203, mu203, mm204, mu204, mm205, mu205, mm206, mu206, mm207, mu207, mm208, mu208, mm209, mu209, mm210, mu210, mm211, mu211, mm212, mu212, mm213, mu213, mm214, mu214, mm215, mu215, mm216, mu216, mm217, mu217, mm218, mu218, mm219, mu219, mm220, mu220, mm221, mu221, mm222, mu222, mm223, mu223, mm224, mu224, mm225, mu225, mm226, mu226, mm227, mu227, mm228, mu228, mm229, mu229, mm230, mu230, x19]
          generalize hz : va_up X2 199 (upd (X2 199) 19 (nI (m + 1))) = Z
          have z199 : Z 199 = upd (X2 199) 19 (nI (m + 1)) := by rw [← hz]; simp [va_up]
          have zo : ∀ k, ¬ k = 199 → Z k = X2 k := fun k hk => by rw [← hz]; simp only [va_up, hk, if_false]
          have zg : RH X2 Y2 Z Y2 := ⟨fun k a _ => zo k a, fun _ _ _ => rfl, fun _ _ => rfl, fun j a b e => by rw [z199, pk_un (by omega)]⟩
          have rg2 := (rf2.rg).tr zg
          obtain ⟨t1, t2, t3, t4, t5, t6, t7, t8, t9⟩ := hrt1
          refine ih (cA c i2) (m + 1) D2 Z Y2 P1 S1 (by omega) (by omega) (fun k hk => by rw [rf2.2.1 205 (by omega) (by omega)]; exact hR k hk) ⟨t1, t2, ?_, t4, t5, ?_, ?_, ?_, ?_⟩ ?_ (OKr_cg ok (by rw [rg2.1 200 (by omega) (by omega)])) (cA_le hi2) (by rw [z199]; simp [upd]) (fun e j el X' Y' f3 b15 b16 => hQ1 e j el X' Y' (rg2.tr f3) b15 b16) (fun m' D' el X' Y' P' S' hD' f3 b19 b15 => hQ2 m' D' el X' Y' P' S' hD' (rg2.tr f3) b19 (by rw [b15, z199, pk_un (by omega), f2, e15]))
          · rw [zo 202 (by omega), y2.1 202 (by omega)]; exact t3
          · rw [y2.2.1 204 (by omega)]; exact t6
          · rw [y2.2.1 204 (by omega)]; exact t7
          · rw [z199, pk_un (by omega), y2.2.2 20 (by omega) (by omega) (by omega)]; exact t8
          · rw [z199, pk_un (by omega), y2.2.2 21 (by omega) (by omega) (by omega)]; exact t9
          · rw [z199]; exact RDR_cg r2 (by simp [upd]) (by simp [upd]) (by simp [upd]) (by simp [upd]) (by simp [upd]) (by simp [upd])
end RTW
