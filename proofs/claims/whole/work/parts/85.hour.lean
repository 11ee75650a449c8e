/-! HOUR: the class -/
section HOU
variable {G : ai_G} {sl : Nat} {Q : List Value → Nat → Nat → ai_M → Prop} {P : Nat} {Y : mY} {X : mX}
abbrev Zh : Type := (Nat → Int32) × Int32
def hpair (pr : Nat → Int32) (p q : Nat) (role : Int32) : Nat → Int32 := upd (upd pr p (role + nI q)) q (nI 300 - role + nI p)
def hfp (pr : Nat → Int32) : Nat → Nat → Nat
  | 0, p => p
  | r + 1, p => if pr p = 0 then p else hfp pr r (p + 1)
def hkeep (pr : Nat → Int32) (met : Int32) (z : Zh) : Zh := if z.2 < met then (va_cpy pr z.1 0 0 8, met) else z
def hStep (T : Int32 → (Nat → Int32) → Zh → Zh) (l k : Nat → Nat → Int32) (pr : Nat → Int32) (p q : Nat) (met : Int32) (z : Zh) : Zh :=
  if whyI l k p q 1 = 0 then T (met + l 1 q) (hpair pr p q 200) (if whyI l k q p 1 = 0 then T (met + l 1 p) (hpair pr p q 100) z else z) else (if whyI l k q p 1 = 0 then T (met + l 1 p) (hpair pr p q 100) z else z)
def hLoop (T : Int32 → (Nat → Int32) → Zh → Zh) (l k : Nat → Nat → Int32) (pr : Nat → Int32) (p : Nat) (met : Int32) : Nat → Nat → Zh → Zh
  | _, 0, z => z
  | q, c + 1, z => hLoop T l k pr p met (q + 1) c (if pr q = 0 then hStep T l k pr p q met z else z)
/-- all arrangements from fr on: the best so far, and what it meets -/
def hT (l k : Nat → Nat → Int32) (P : Nat) : Nat → Nat → Int32 → (Nat → Int32) → Zh → Zh
  | 0, _, met, pr, z => hkeep pr met z
  | n + 1, fr, met, pr, z => if hfp pr (P - fr) fr < P then hLoop (fun m pr' z => hT l k P n (hfp pr (P - fr) fr + 1) m pr' z) l k pr (hfp pr (P - fr) fr) met (hfp pr (P - fr) fr + 1) (P - (hfp pr (P - fr) fr + 1)) (hT l k P n (hfp pr (P - fr) fr + 1) met pr z) else hkeep pr met z
def hsX (X : mX) (pr b : Nat → Int32) (m : Int32) : mX := va_up (va_up (va_up X 35 (upd (X 35) 2 m)) 36 pr) 37 b
theorem lv_hs (pr b : Nat → Int32) (m : Int32) : lv (hsX X pr b m) 61 = lv X 61 := by unfold hsX; rw [lv_up (by omega), lv_up (by omega), lv_up (by omega)]
theorem cv_hs (pr b : Nat → Int32) (m : Int32) : cv (hsX X pr b m) 47 = cv X 47 := by unfold hsX; rw [cv_up (by omega), cv_up (by omega), cv_up (by omega)]
theorem hpair_undo {pr : Nat → Int32} {p q : Nat} {role : Int32} (hp : pr p = 0) (hq : pr q = 0) : upd (upd (hpair pr p q role) p (nI 0)) q (nI 0) = pr := by
  funext j
  unfold hpair upd
  by_cases h1 : j = q
  · subst h1; simp [hq]; rfl
  · by_cases h2 : j = p
    · subst h2; simp [h1, hp]; rfl
    · simp [h1, h2]
theorem hfp_ok (pr : Nat → Int32) : ∀ (r p : Nat), p ≤ hfp pr r p ∧ hfp pr r p ≤ p + r ∧ (hfp pr r p < p + r → pr (hfp pr r p) = 0) := by
  intro r
  induction r with
  | zero => intro p; exact ⟨Nat.le_refl _, Nat.le_refl _, fun h => by have : p < p + 0 := h; omega⟩
  | succ r ih =>
    intro p
    unfold hfp
    split
    · rename_i h; exact ⟨Nat.le_refl _, by omega, fun _ => h⟩
    · obtain ⟨a, b, c⟩ := ih (p + 1)
      exact ⟨by omega, by omega, fun h => c (by omega)⟩
set_option maxHeartbeats 4000000 in
theorem hkeep_eq {d : Nat} {pr b : Nat → Int32} {m met : Int32} (hG : G.1 = false) : aw ET G (d + 1) 102 0 [some (.ref 35), some (.int met)] [] 231 sl (mem (hsX X pr b m) Y) Q = Q [] 231 sl (mem (hsX X pr (hkeep pr met (b, m)).1 (hkeep pr met (b, m)).2) Y) := by
  have c0 : (nI 0).toNatClampNeg = 0 := rfl
  have c8 : (nI 8).toNatClampNeg = 8 := rfl
  unfold hsX hkeep
  rcases lt_or m met with ⟨g1, g2⟩ | ⟨g1, g2⟩
  · simp (disch := omega) [w102_0, w102_1, x102_2_35, w102_5, w102_8, w102_9, x102_10, w102_13, x102_14_35, w102_17, w102_18, x102_19_35, w102_22, w102_23, w102_25, w102_28, rt102, ow102, pl2_53, aw_st, ai_cls, ai_len, ai_p, ai_sw, ai_m, ai_c, ai_at, ai_isI, ai_isJ, ai_isA, ai_ld, ai_1i, ai_2i, ai_2l, ai_cn, ai_j, ai_set, ai_set2, ai_nl, ai_rs, ai_sm, Value.category, hk0, hk1, lits, litb, litm, litm2, List.getElem?_cons_zero, List.getElem?_cons_succ, or_n0, bit_r, fi0, fi1, fi2, fi3, nI_toInt, nI_add, pk_mul, nI_leI, nI_ltI, nI_eq, pk_sub, ib_nI, nI_clamp, va_up_self, va_up_ne, va_up_up, va_up_comm, pk_us, pk_un, upd_up, updL_up, pk_uLs, pk_uLn, b01_1, b01_0, b01_1s, b01_0s, or_b, mm36, mu36, mm37, mu37, ai_cp, hG, g1, g2, c0, c8]
  · simp (disch := omega) [w102_0, w102_1, x102_2_35, w102_5, w102_8, w102_9, x102_10, w102_13, x102_14_35, w102_17, w102_18, x102_19_35, w102_22, w102_23, w102_25, w102_28, rt102, ow102, pl2_53, aw_st, ai_cls, ai_len, ai_p, ai_sw, ai_m, ai_c, ai_at, ai_isI, ai_isJ, ai_isA, ai_ld, ai_1i, ai_2i, ai_2l, ai_cn, ai_j, ai_set, ai_set2, ai_nl, ai_rs, ai_sm, Value.category, hk0, hk1, lits, litb, litm, litm2, List.getElem?_cons_zero, List.getElem?_cons_succ, or_n0, bit_r, fi0, fi1, fi2, fi3, nI_toInt, nI_add, pk_mul, nI_leI, nI_ltI, nI_eq, pk_sub, ib_nI, nI_clamp, va_up_self, va_up_ne, va_up_up, va_up_comm, pk_us, pk_un, upd_up, updL_up, pk_uLs, pk_uLn, b01_1, b01_0, b01_1s, b01_0s, or_b, mm36, mu36, mm37, mu37, ai_cp, hG, g1, g2]
set_option maxHeartbeats 4000000 in
theorem hfree_loop {d : Nat} {pr b : Nat → Int32} {m met : Int32} {fr : Nat} (hP : P ≤ 8) (hm : X 35 3 = nI P) : ∀ (r p : Nat), p + r = P → aw ET G d 101 3 [some (.ref 35), some (.ref 61), some (.int (nI fr)), some (.int met), some (.int (nI p)), none] [] 231 sl (mem (hsX X pr b m) Y) Q = aw ET G d 101 28 [some (.ref 35), some (.ref 61), some (.int (nI fr)), some (.int met), some (.int (nI (hfp pr r p))), none] [] 231 sl (mem (hsX X pr b m) Y) Q := by
  intro r
  induction r with
  | zero =>
    intro p hp
    unfold hsX
    simp (disch := omega) [w101_3, w101_5, x101_6_35, w101_9, aw_st, ai_cls, ai_len, ai_p, ai_sw, ai_m, ai_c, ai_at, ai_isI, ai_isJ, ai_isA, ai_ld, ai_1i, ai_2i, ai_2l, ai_cn, ai_j, ai_set, ai_set2, ai_nl, ai_rs, ai_sm, Value.category, hk0, hk1, lits, litb, litm, litm2, List.getElem?_cons_zero, List.getElem?_cons_succ, or_n0, bit_r, fi0, fi1, fi2, fi3, nI_toInt, nI_add, pk_mul, nI_leI, nI_ltI, nI_eq, pk_sub, ib_nI, nI_clamp, va_up_self, va_up_ne, va_up_up, va_up_comm, pk_us, pk_un, upd_up, updL_up, pk_uLs, pk_uLn, b01_1, b01_0, b01_1s, b01_0s, or_b, hm, show P ≤ p by omega, hfp]
  | succ r ih =>
    intro p hp
    have := ih (p + 1) (by omega)
    rw [w101_3]
    unfold hsX at this ⊢
    by_cases e : pr p = nI 0
    · simp (disch := omega) [w101_5, x101_6_35, w101_9, w101_12, x101_13_35, w101_16, w101_18, w101_19, w101_22, w101_25, aw_st, ai_cls, ai_len, ai_p, ai_sw, ai_m, ai_c, ai_at, ai_isI, ai_isJ, ai_isA, ai_ld, ai_1i, ai_2i, ai_2l, ai_cn, ai_j, ai_set, ai_set2, ai_nl, ai_rs, ai_sm, Value.category, hk0, hk1, lits, litb, litm, litm2, List.getElem?_cons_zero, List.getElem?_cons_succ, or_n0, bit_r, fi0, fi1, fi2, fi3, nI_toInt, nI_add, pk_mul, nI_leI, nI_ltI, nI_eq, pk_sub, ib_nI, nI_clamp, va_up_self, va_up_ne, va_up_up, va_up_comm, pk_us, pk_un, upd_up, updL_up, pk_uLs, pk_uLn, b01_1, b01_0, b01_1s, b01_0s, or_b, mm36, hm, e, show ¬ P ≤ p by omega, hfp]
    · simp (disch := omega) [w101_5, x101_6_35, w101_9, w101_12, x101_13_35, w101_16, w101_18, w101_19, w101_22, w101_25, aw_st, ai_cls, ai_len, ai_p, ai_sw, ai_m, ai_c, ai_at, ai_isI, ai_isJ, ai_isA, ai_ld, ai_1i, ai_2i, ai_2l, ai_cn, ai_j, ai_set, ai_set2, ai_nl, ai_rs, ai_sm, Value.category, hk0, hk1, lits, litb, litm, litm2, List.getElem?_cons_zero, List.getElem?_cons_succ, or_n0, bit_r, fi0, fi1, fi2, fi3, nI_toInt, nI_add, pk_mul, nI_leI, nI_ltI, nI_eq, pk_sub, ib_nI, nI_clamp, va_up_self, va_up_ne, va_up_up, va_up_comm, pk_us, pk_un, upd_up, updL_up, pk_uLs, pk_uLn, b01_1, b01_0, b01_1s, b01_0s, or_b, mm36, hm, e, show ¬ P ≤ p by omega, hfp]
      exact Iff.of_eq this
set_option maxHeartbeats 8000000 in
set_option maxRecDepth 8000 in
theorem tryFrom_eq (hG : G.1 = false) (hP : P ≤ 8) (hm : X 35 3 = nI P) : ∀ (n d fr : Nat) (met : Int32) (pr b : Nat → Int32) (m : Int32) (Q : List Value → Nat → Nat → ai_M → Prop), fr ≤ P → P - fr ≤ n → aw ET G (d + 2 * n + 3) 101 0 [some (.ref 35), some (.ref 61), some (.int (nI fr)), some (.int met), none, none] [] 231 sl (mem (hsX X pr b m) Y) Q = Q [] 231 sl (mem (hsX X pr (hT (lv X 61) (cv X 47) P n fr met pr (b, m)).1 (hT (lv X 61) (cv X 47) P n fr met pr (b, m)).2) Y) := by
  intro n
  induction n with
  | zero =>
    intro d fr met pr b m Q h1 h2
    have hf := hfree_loop (G := G) (d := d + 2 * 0 + 3) (sl := sl) (Q := Q) (Y := Y) (X := X) (pr := pr) (b := b) (m := m) (met := met) (fr := fr) hP hm (P - fr) fr (by omega)
    have e : hfp pr (P - fr) fr = P := by rw [show P - fr = 0 by omega]; show fr = P; omega
    rw [e] at hf
    have hm' : hsX X pr b m 35 3 = nI P := by simp [hsX, va_up, upd, hm]
    simp (disch := omega) [w101_0, w101_1, aw_st, ai_cls, ai_len, ai_p, ai_sw, ai_m, ai_c, ai_at, ai_isI, ai_isJ, ai_isA, ai_ld, ai_1i, ai_2i, ai_2l, ai_cn, ai_j, ai_set, ai_set2, ai_nl, ai_rs, ai_sm, Value.category, hk0, hk1, lits, litb, litm, litm2, List.getElem?_cons_zero, List.getElem?_cons_succ, or_n0, bit_r, fi0, fi1, fi2, fi3, nI_toInt, nI_add, pk_mul, nI_leI, nI_ltI, nI_eq, pk_sub, ib_nI, nI_clamp, va_up_self, va_up_ne, va_up_up, va_up_comm, pk_us, pk_un, upd_up, updL_up, pk_uLs, pk_uLn, b01_1, b01_0, b01_1s, b01_0s, or_b]
    simp only [Nat.mul_zero, Nat.add_zero] at hf
    rw [hf]
    simp (disch := omega) [w101_28, w101_30, x101_31_35, w101_34, w101_37, w101_38, x101_39_35, w101_42, rt101, aw_st, ai_cls, ai_len, ai_p, ai_sw, ai_m, ai_c, ai_at, ai_isI, ai_isJ, ai_isA, ai_ld, ai_1i, ai_2i, ai_2l, ai_cn, ai_j, ai_set, ai_set2, ai_nl, ai_rs, ai_sm, Value.category, hk0, hk1, lits, litb, litm, litm2, List.getElem?_cons_zero, List.getElem?_cons_succ, or_n0, bit_r, fi0, fi1, fi2, fi3, nI_toInt, nI_add, pk_mul, nI_leI, nI_ltI, nI_eq, pk_sub, ib_nI, nI_clamp, va_up_self, va_up_ne, va_up_up, va_up_comm, pk_us, pk_un, upd_up, updL_up, pk_uLs, pk_uLn, b01_1, b01_0, b01_1s, b01_0s, or_b, hm', hkeep_eq hG, hT]
  | succ n ih =>
    intro d fr met pr b m Q h1 h2
    have hf := hfree_loop (G := G) (d := d + 2 * (n + 1) + 3) (sl := sl) (Q := Q) (Y := Y) (X := X) (pr := pr) (b := b) (m := m) (met := met) (fr := fr) hP hm (P - fr) fr (by omega)
    obtain ⟨f1, f2, f3⟩ := hfp_ok pr (P - fr) fr
    have hm' : ∀ pr b m, hsX X pr b m 35 3 = nI P := fun pr b m => by simp [hsX, va_up, upd, hm]
    simp (disch := omega) [w101_0, w101_1, aw_st, ai_cls, ai_len, ai_p, ai_sw, ai_m, ai_c, ai_at, ai_isI, ai_isJ, ai_isA, ai_ld, ai_1i, ai_2i, ai_2l, ai_cn, ai_j, ai_set, ai_set2, ai_nl, ai_rs, ai_sm, Value.category, hk0, hk1, lits, litb, litm, litm2, List.getElem?_cons_zero, List.getElem?_cons_succ, or_n0, bit_r, fi0, fi1, fi2, fi3, nI_toInt, nI_add, pk_mul, nI_leI, nI_ltI, nI_eq, pk_sub, ib_nI, nI_clamp, va_up_self, va_up_ne, va_up_up, va_up_comm, pk_us, pk_un, upd_up, updL_up, pk_uLs, pk_uLn, b01_1, b01_0, b01_1s, b01_0s, or_b]
    rw [hf]
    by_cases hlt : hfp pr (P - fr) fr < P
    · rw [hT, if_pos hlt]
      have hp0 := f3 (by omega)
      generalize hfp pr (P - fr) fr = p at *
      have hw : ∀ (pr b : Nat → Int32) (m : Int32) (a c : Nat) (Q : List Value → Nat → Nat → ai_M → Prop), a < 8 → c < 8 → aw ET G (d + 2 * n + 4) 68 0 [some (.ref 61), some (.int (nI a)), some (.int (nI c)), some (.int (nI 1))] [] 231 sl (mem (hsX X pr b m) Y) Q = Q [.int (whyI (lv X 61) (cv X 47) a c (nI 1))] 231 sl (mem (hsX X pr b m) Y) := by
        intro pr b m a c Q ha hc
        have := whyM (G := G) (d := d + 2 * n + 3) (sl := sl) (Q := Q) (Y := Y) (X := hsX X pr b m) (x := nI 1) (o := 61) (Or.inr (Or.inl rfl)) (Or.inr (Or.inl rfl)) ha hc
        rw [lv_hs, show chO 61 = 47 from rfl, cv_hs] at this
        exact this
      have loop : ∀ (c q : Nat) (b : Nat → Int32) (m : Int32), q + c = P → p < q → aw ET G (d + 2 * n + 5) 101 59 [some (.ref 35), some (.ref 61), some (.int (nI fr)), some (.int met), some (.int (nI p)), some (.int (nI q))] [] 231 sl (mem (hsX X pr b m) Y) Q = Q [] 231 sl (mem (hsX X pr (hLoop (fun m pr' z => hT (lv X 61) (cv X 47) P n (p + 1) m pr' z) (lv X 61) (cv X 47) pr p met q c (b, m)).1 (hLoop (fun m pr' z => hT (lv X 61) (cv X 47) P n (p + 1) m pr' z) (lv X 61) (cv X 47) pr p met q c (b, m)).2) Y) := by
        intro c
        induction c with
        | zero =>
          intro q b m hq hpq
          simp (disch := omega) [w101_59, w101_61, x101_62_35, w101_65, w101_152, rt101, aw_st, ai_cls, ai_len, ai_p, ai_sw, ai_m, ai_c, ai_at, ai_isI, ai_isJ, ai_isA, ai_ld, ai_1i, ai_2i, ai_2l, ai_cn, ai_j, ai_set, ai_set2, ai_nl, ai_rs, ai_sm, Value.category, hk0, hk1, lits, litb, litm, litm2, List.getElem?_cons_zero, List.getElem?_cons_succ, or_n0, bit_r, fi0, fi1, fi2, fi3, nI_toInt, nI_add, pk_mul, nI_leI, nI_ltI, nI_eq, pk_sub, ib_nI, nI_clamp, va_up_self, va_up_ne, va_up_up, va_up_comm, pk_us, pk_un, upd_up, updL_up, pk_uLs, pk_uLn, b01_1, b01_0, b01_1s, b01_0s, or_b, hm', show P ≤ q by omega, hLoop]
        | succ c ihc =>
          intro q b m hq hpq
          have l1 : ∀ (pr b : Nat → Int32) (m : Int32), hsX X pr b m 62 = lv X 61 1 := fun pr b m => by simp [hsX, va_up, lv]
          have pe : ∀ (role met2 : Int32) (b : Nat → Int32) (m : Int32) (Q : List Value → Nat → Nat → ai_M → Prop), pr q = 0 → aw ET G (d + 2 * n + 4) 103 0 [some (.ref 35), some (.ref 61), some (.int (nI p)), some (.int (nI q)), some (.int role), some (.int met2)] [] 231 sl (mem (hsX X pr b m) Y) Q = Q [] 231 sl (mem (hsX X pr (hT (lv X 61) (cv X 47) P n (p + 1) met2 (hpair pr p q role) (b, m)).1 (hT (lv X 61) (cv X 47) P n (p + 1) met2 (hpair pr p q role) (b, m)).2) Y) := by
            intro role met2 b m Q hq0
            have hu := hpair_undo (role := role) hp0 hq0
            have i1 := ih d (p + 1) met2 (hpair pr p q role) b m
            unfold hsX at i1 ⊢
            unfold hpair at i1 hu
            simp (disch := omega) [w103_0, x103_1_35, w103_4, w103_5, w103_7, w103_8, w103_9, w103_10, x103_11_35, w103_14, w103_15, w103_18, w103_20, w103_21, w103_22, w103_23, w103_24, w103_25, w103_26, w103_27, w103_28, w103_29, x103_31_35, aw_st, ai_cls, ai_len, ai_p, ai_sw, ai_m, ai_c, ai_at, ai_isI, ai_isJ, ai_isA, ai_ld, ai_1i, ai_2i, ai_2l, ai_cn, ai_j, ai_set, ai_set2, ai_nl, ai_rs, ai_sm, Value.category, hk0, hk1, lits, litb, litm, litm2, List.getElem?_cons_zero, List.getElem?_cons_succ, or_n0, bit_r, fi0, fi1, fi2, fi3, nI_toInt, nI_add, pk_mul, nI_leI, nI_ltI, nI_eq, pk_sub, ib_nI, nI_clamp, va_up_self, va_up_ne, va_up_up, va_up_comm, pk_us, pk_un, upd_up, updL_up, pk_uLs, pk_uLn, b01_1, b01_0, b01_1s, b01_0s, or_b, mm36, mu36]
            rw [i1 _ (by omega) (by omega)]
            simp (disch := omega) [w103_34, x103_35_35, w103_38, w103_39, w103_40, w103_41, x103_42_35, w103_45, w103_46, w103_47, w103_48, rt103, aw_st, ai_cls, ai_len, ai_p, ai_sw, ai_m, ai_c, ai_at, ai_isI, ai_isJ, ai_isA, ai_ld, ai_1i, ai_2i, ai_2l, ai_cn, ai_j, ai_set, ai_set2, ai_nl, ai_rs, ai_sm, Value.category, hk0, hk1, lits, litb, litm, litm2, List.getElem?_cons_zero, List.getElem?_cons_succ, or_n0, bit_r, fi0, fi1, fi2, fi3, nI_toInt, nI_add, pk_mul, nI_leI, nI_ltI, nI_eq, pk_sub, ib_nI, nI_clamp, va_up_self, va_up_ne, va_up_up, va_up_comm, pk_us, pk_un, upd_up, updL_up, pk_uLs, pk_uLn, b01_1, b01_0, b01_1s, b01_0s, or_b, mm36, mu36]
            rw [hu]
            rfl
          rw [w101_59]
          by_cases hq0 : pr q = nI 0
          · have hq0' : pr q = 0 := hq0
            have ls : hLoop (fun m pr' z => hT (lv X 61) (cv X 47) P n (p + 1) m pr' z) (lv X 61) (cv X 47) pr p met q (c + 1) (b, m) = hLoop (fun m pr' z => hT (lv X 61) (cv X 47) P n (p + 1) m pr' z) (lv X 61) (cv X 47) pr p met (q + 1) c (hStep (fun m pr' z => hT (lv X 61) (cv X 47) P n (p + 1) m pr' z) (lv X 61) (cv X 47) pr p q met (b, m)) := by rw [hLoop, if_pos hq0']
            rw [ls]
            have h36 : ∀ (b : Nat → Int32) (m : Int32), hsX X pr b m 36 = pr := fun b m => by simp [hsX, va_up]
            by_cases g1 : whyI (lv X 61) (cv X 47) q p (nI 1) = nI 0 <;> by_cases g2 : whyI (lv X 61) (cv X 47) p q (nI 1) = nI 0 <;>
              (have g1' := g1; have g2' := g2
               simp only [show nI 1 = (1 : Int32) from rfl, show nI 0 = (0 : Int32) from rfl] at g1' g2'
               simp only [hStep, g1', g2', if_true, if_false]
               simp (disch := omega) [w101_61, x101_62_35, w101_65, w101_68, x101_69_35, w101_72, w101_74, w101_75, w101_81, w101_82, w101_84, w101_86, x101_87_61, w101_90, w101_93, w101_94, w101_95, w101_97, w101_99, w101_101, w101_102, x101_103_61, w101_106, w101_108, w101_109, x101_110_35, w101_113, w101_114, w101_116, w101_118, x101_119_61, w101_122, w101_125, w101_126, w101_127, w101_129, w101_131, w101_134, w101_135, x101_136_61, w101_139, w101_141, w101_142, x101_143_35, w101_146, w101_149, aw_st, ai_cls, ai_len, ai_p, ai_sw, ai_m, ai_c, ai_at, ai_isI, ai_isJ, ai_isA, ai_ld, ai_1i, ai_2i, ai_2l, ai_cn, ai_j, ai_set, ai_set2, ai_nl, ai_rs, ai_sm, Value.category, hk0, hk1, lits, litb, litm, litm2, List.getElem?_cons_zero, List.getElem?_cons_succ, or_n0, bit_r, fi0, fi1, fi2, fi3, nI_toInt, nI_add, pk_mul, nI_leI, nI_ltI, nI_eq, pk_sub, ib_nI, nI_clamp, va_up_self, va_up_ne, va_up_up, va_up_comm, pk_us, pk_un, upd_up, updL_up, pk_uLs, pk_uLn, b01_1, b01_0, b01_1s, b01_0s, or_b, mm36, mm62, h36, l1, hm', hq0, hw, g1, g2, pe _ _ _ _ _ hq0', ihc, show ¬ P ≤ q by omega, show (100 : Int32) = nI 100 from rfl, show (200 : Int32) = nI 200 from rfl])
          · have hq0' : ¬ pr q = 0 := hq0
            have ls : hLoop (fun m pr' z => hT (lv X 61) (cv X 47) P n (p + 1) m pr' z) (lv X 61) (cv X 47) pr p met q (c + 1) (b, m) = hLoop (fun m pr' z => hT (lv X 61) (cv X 47) P n (p + 1) m pr' z) (lv X 61) (cv X 47) pr p met (q + 1) c (b, m) := by rw [hLoop, if_neg hq0']
            rw [ls]
            have h36 : ∀ (b : Nat → Int32) (m : Int32), hsX X pr b m 36 = pr := fun b m => by simp [hsX, va_up]
            simp (disch := omega) [w101_61, x101_62_35, w101_65, w101_68, x101_69_35, w101_72, w101_74, w101_75, w101_78, w101_146, w101_149, aw_st, ai_cls, ai_len, ai_p, ai_sw, ai_m, ai_c, ai_at, ai_isI, ai_isJ, ai_isA, ai_ld, ai_1i, ai_2i, ai_2l, ai_cn, ai_j, ai_set, ai_set2, ai_nl, ai_rs, ai_sm, Value.category, hk0, hk1, lits, litb, litm, litm2, List.getElem?_cons_zero, List.getElem?_cons_succ, or_n0, bit_r, fi0, fi1, fi2, fi3, nI_toInt, nI_add, pk_mul, nI_leI, nI_ltI, nI_eq, pk_sub, ib_nI, nI_clamp, va_up_self, va_up_ne, va_up_up, va_up_comm, pk_us, pk_un, upd_up, updL_up, pk_uLs, pk_uLn, b01_1, b01_0, b01_1s, b01_0s, or_b, mm36, h36, hm', hq0, show ¬ P ≤ q by omega]
            exact Iff.of_eq (ihc (q + 1) b m (by omega) (by omega))
      have i0 := ih (d + 1) (p + 1) met pr b m
      simp only [show d + 1 + 2 * n + 3 = d + 2 * n + 4 by omega] at i0
      simp only [show d + 2 * (n + 1) + 3 = d + 2 * n + 5 by omega]
      simp (disch := omega) [w101_28, w101_30, x101_31_35, w101_34, w101_43, w101_44, w101_45, w101_47, w101_48, w101_49, x101_50_35, w101_53, w101_55, w101_56, w101_57, aw_st, ai_cls, ai_len, ai_p, ai_sw, ai_m, ai_c, ai_at, ai_isI, ai_isJ, ai_isA, ai_ld, ai_1i, ai_2i, ai_2l, ai_cn, ai_j, ai_set, ai_set2, ai_nl, ai_rs, ai_sm, Value.category, hk0, hk1, lits, litb, litm, litm2, List.getElem?_cons_zero, List.getElem?_cons_succ, or_n0, bit_r, fi0, fi1, fi2, fi3, nI_toInt, nI_add, pk_mul, nI_leI, nI_ltI, nI_eq, pk_sub, ib_nI, nI_clamp, va_up_self, va_up_ne, va_up_up, va_up_comm, pk_us, pk_un, upd_up, updL_up, pk_uLs, pk_uLn, b01_1, b01_0, b01_1s, b01_0s, or_b, hm', hlt, i0]
      exact Iff.of_eq (loop (P - (p + 1)) (p + 1) _ _ (by omega) (by omega))
    · rw [hT, if_neg hlt]
      simp only [show d + 2 * (n + 1) + 3 = d + 2 * n + 4 + 1 by omega]
      have hk2 := fun (Q : List Value → Nat → Nat → ai_M → Prop) => hkeep_eq (G := G) (sl := sl) (Q := Q) (Y := Y) (X := X) (d := d + 2 * n + 3) (pr := pr) (b := b) (m := m) (met := met) hG
      simp (disch := omega) [w101_28, w101_30, x101_31_35, w101_34, w101_37, w101_38, x101_39_35, w101_42, rt101, aw_st, ai_cls, ai_len, ai_p, ai_sw, ai_m, ai_c, ai_at, ai_isI, ai_isJ, ai_isA, ai_ld, ai_1i, ai_2i, ai_2l, ai_cn, ai_j, ai_set, ai_set2, ai_nl, ai_rs, ai_sm, Value.category, hk0, hk1, lits, litb, litm, litm2, List.getElem?_cons_zero, List.getElem?_cons_succ, or_n0, bit_r, fi0, fi1, fi2, fi3, nI_toInt, nI_add, pk_mul, nI_leI, nI_ltI, nI_eq, pk_sub, ib_nI, nI_clamp, va_up_self, va_up_ne, va_up_up, va_up_comm, pk_us, pk_un, upd_up, updL_up, pk_uLs, pk_uLn, b01_1, b01_0, b01_1s, b01_0s, or_b, hm', hk2, hlt]
end HOU
