/-! A SENTENCE's text: the reference, in all, II -/
section RSF
variable {G : ai_G} {d sl : Nat} {Q : List Value → Nat → Nat → ai_M → Prop} {P S : Nat} {nm : Nat → List Nat} {t : Nat → Nat} {n : Nat}
/-- the SENTENCE that the reference keeps -/
def SKr (X : mX) (L : List SC) : Prop := X 201 257 = nI L.length ∧ ∀ q, q < L.length → X 201 (258 + 3 * q) = nI (rkc (L.getD q (0, 0, 0)).1) ∧ X 201 (258 + 3 * q + 1) = nI (L.getD q (0, 0, 0)).2.1 ∧ X 201 (258 + 3 * q + 2) = nI (L.getD q (0, 0, 0)).2.2
theorem rs_copy {X : mX} {Y : mY} {L : List SC} {o m : Nat} {f0 : Nat → Int32} {x1 : Int32} (hm : m = 3 * L.length) (hl : L.length ≤ 40) (h56 : X 199 56 = nI L.length) (h57 : X 199 57 = nI o) : ∀ (r i : Nat) (f : Nat → Int32), i + r = m → (∀ j, ¬ (258 ≤ j ∧ j < 258 + i) → f j = f0 j) → (∀ q, q < i → f (258 + q) = X 203 q) → (∀ f', (∀ j, ¬ (258 ≤ j ∧ j < 258 + m) → f' j = f0 j) → (∀ q, q < m → f' (258 + q) = X 203 q) → Q [.int (nI o)] 231 sl (mem (va_up X 201 f') Y)) → aw ET G d 276 146 [some (.ref 199), some (.int x1), some (.int (nI i))] [] 231 sl (mem (va_up X 201 f) Y) Q := by
  intro r
  induction r with
  | zero =>
    intro i f hi h1 h2 hQ
    have : i = m := by omega
    subst this
    have := hQ f h1 h2
    rw [w276_146]
    simp (disch := omega) [w276_147, w276_148, x276_149, w276_152, w276_153, w276_178, x276_179, w276_182, rt276, rt276, aw_st, ai_cls, ai_len, ai_p, ai_sw, ai_m, ai_c, ai_at, ai_isI, ai_isJ, ai_isA, ai_ld, ai_1i, ai_2i, ai_2l, ai_cn, ai_j, ai_set, ai_set2, ai_nl, ai_rs, ai_sm, Value.category, hk0, hk1, lits, litb, litm, litm2, List.getElem?_cons_zero, List.getElem?_cons_succ, or_n0, bit_r, fi0, fi1, fi2, fi3, nI_toInt, nI_add, pk_mul, nI_leI, nI_ltI, nI_eq, pk_sub, ib_nI, nI_clamp, va_up_self, va_up_ne, va_up_up, va_up_comm, pk_us, pk_un, upd_up, updL_up, pk_uLs, pk_uLn, b01_1, b01_0, b01_1s, b01_0s, or_b, mm200, mu200, mm201, mu201, mm202, mu202, mm203, mu203, mm204, mu204, mm205, mu205, mm206, mu206, mm207, mu207, mm208, mu208, mm209, mu209, mm210, mu210, mm211, mu211, mm212, mu212, mm213, mu213, mm214, mu214, mm215, mu215, mm216, mu216, mm217, mu217, mm218, mu218, mm219, mu219, mm220, mu220, mm221, mu221, mm222, mu222, mm223, mu223, mm224, mu224, mm225, mu225, mm226, mu226, mm227, mu227, mm228, mu228, mm229, mu229, mm230, mu230, h56, h57, show 3 * L.length ≤ i by omega]
    exact this
  | succ r ih =>
    intro i f hi h1 h2 hQ
    rw [w276_146]
    simp (disch := omega) [w276_147, w276_148, x276_149, w276_152, w276_153, w276_156, x276_157, w276_160, w276_163, w276_164, w276_165, x276_166, w276_169, w276_170, w276_171, w276_172, w276_175, rt276, rt276, aw_st, ai_cls, ai_len, ai_p, ai_sw, ai_m, ai_c, ai_at, ai_isI, ai_isJ, ai_isA, ai_ld, ai_1i, ai_2i, ai_2l, ai_cn, ai_j, ai_set, ai_set2, ai_nl, ai_rs, ai_sm, Value.category, hk0, hk1, lits, litb, litm, litm2, List.getElem?_cons_zero, List.getElem?_cons_succ, or_n0, bit_r, fi0, fi1, fi2, fi3, nI_toInt, nI_add, pk_mul, nI_leI, nI_ltI, nI_eq, pk_sub, ib_nI, nI_clamp, va_up_self, va_up_ne, va_up_up, va_up_comm, pk_us, pk_un, upd_up, updL_up, pk_uLs, pk_uLn, b01_1, b01_0, b01_1s, b01_0s, or_b, mm200, mu200, mm201, mu201, mm202, mu202, mm203, mu203, mm204, mu204, mm205, mu205, mm206, mu206, mm207, mu207, mm208, mu208, mm209, mu209, mm210, mu210, mm211, mu211, mm212, mu212, mm213, mu213, mm214, mu214, mm215, mu215, mm216, mu216, mm217, mu217, mm218, mu218, mm219, mu219, mm220, mu220, mm221, mu221, mm222, mu222, mm223, mu223, mm224, mu224, mm225, mu225, mm226, mu226, mm227, mu227, mm228, mu228, mm229, mu229, mm230, mu230, h56, show ¬ 3 * L.length ≤ i by omega]
    refine ih (i + 1) _ (by omega) (fun j hj => ?_) (fun q hq => ?_) hQ
    · rw [pk_un (by omega)]
      exact h1 j (by omega)
    · by_cases e : q = i
      · rw [e, pk_us]
      · rw [pk_un (by omega)]
        exact h2 q (by omega)
/-- what a SENTENCE's text leaves as it was -/
def RSX (X : mX) (Y : mY) (X' : mX) (Y' : mY) : Prop := (∀ k, ¬ k = 199 → ¬ k = 201 → ¬ k = 203 → ¬ k = 225 → X' k = X k) ∧ (∀ j, ¬ (257 ≤ j ∧ j < 378) → X' 201 j = X 201 j) ∧ (∀ j, ¬ j = 0 → ¬ (2 ≤ j ∧ j ≤ 5) → ¬ (11 ≤ j ∧ j ≤ 16) → ¬ j = 18 → ¬ (56 ≤ j ∧ j ≤ 60) → X' 199 j = X 199 j) ∧ X' 199 0 = nI 0 ∧ X' 199 2 = nI 0 ∧ (∀ k, ¬ k = 199 → Y' k = Y k)
/-- the text is taken, the first word is read -/
theorem rs_begin {X : mX} {Y : mY} (hT : TB8 (X 200) t) (h2 : X 199 2 = nI n) (hn : n ≤ 940) (hQ : ∀ X' Y', RSX X Y X' Y' → X' 201 = X 201 → SRA (t, n, 200) X' Y' (false, 0, 0, [], [], 1) → OKr (t, n, 200) X' → X' 199 15 = nI 0 → aw ET G (d + 4) 276 48 [some (.ref 199), some (.int (nI 1)), none] [] 231 sl (mem X' Y') Q) : aw ET G (d + 4) 276 0 [some (.ref 199), none, none] [] 231 sl (mem X Y) Q := by
  have e0 : b01 (false = true) = nI 0 := by decide
  simp (disch := omega) [w276_0, w276_1, x276_2, w276_5, w276_6, x276_9, w276_12, w276_13, x276_14, w276_17, w276_18, x276_19, w276_22, w276_23, x276_24, w276_27, w276_28, x276_29, w276_32, w276_33, x276_34, w276_37, w276_38, x276_39 (v := nI 0) (Or.inl rfl), x276_39 (v := nI 1) (Or.inr rfl), w276_42, rt276, rt276, aw_st, ai_cls, ai_len, ai_p, ai_sw, ai_m, ai_c, ai_at, ai_isI, ai_isJ, ai_isA, ai_ld, ai_1i, ai_2i, ai_2l, ai_cn, ai_j, ai_set, ai_set2, ai_nl, ai_rs, ai_sm, Value.category, hk0, hk1, lits, litb, litm, litm2, List.getElem?_cons_zero, List.getElem?_cons_succ, or_n0, bit_r, fi0, fi1, fi2, fi3, nI_toInt, nI_add, pk_mul, nI_leI, nI_ltI, nI_eq, pk_sub, ib_nI, nI_clamp, va_up_self, va_up_ne, va_up_up, va_up_comm, pk_us, pk_un, upd_up, updL_up, pk_uLs, pk_uLn, b01_1, b01_0, b01_1s, b01_0s, or_b, mm200, mu200, mm201, mu201, mm202, mu202, mm203, mu203, mm204, mu204, mm205, mu205, mm206, mu206, mm207, mu207, mm208, mu208, mm209, mu209, mm210, mu210, mm211, mu211, mm212, mu212, mm213, mu213, mm214, mu214, mm215, mu215, mm216, mu216, mm217, mu217, mm218, mu218, mm219, mu219, mm220, mu220, mm221, mu221, mm222, mu222, mm223, mu223, mm224, mu224, mm225, mu225, mm226, mu226, mm227, mu227, mm228, mu228, mm229, mu229, mm230, mu230, taken_eq, h2]
  have go : ∀ Z, (∀ k, ¬ k = 199 → Z k = X k) → Z 199 3 = nI n → Z 199 4 = nI 0 → Z 199 5 = nI 200 → Z 199 15 = nI 0 → Z 199 56 = nI 0 → Z 199 57 = nI 0 → Z 199 58 = nI 0 → Z 199 59 = nI 1 → Z 199 60 = nI 0 → Z 199 0 = nI 0 → Z 199 2 = nI 0 → (∀ j, ¬ j = 0 → ¬ (2 ≤ j ∧ j ≤ 5) → ¬ j = 15 → ¬ (56 ≤ j ∧ j ≤ 60) → Z 199 j = X 199 j) → aw ET G (d + 4) 276 43 [some (.ref 199), none, none] [.ref 199] 231 sl (mem Z Y) Q := by
    intro Z z z3 z4 z5 z15 z56 z57 z58 z59 z60 z0 z2 zo
    rw [x276_43, if_pos (by decide)]
    have ok : OKr (t, n, 200) Z := ⟨by rw [z 200 (by omega)]; exact hT, hn, by show 200 ≤ 940; omega⟩
    refine Gstart (d := d + 2) (c := (t, n, 200)) (i := 0) z3 z4 z5 ok (Nat.zero_le _) (fun X1 Y1 f1 r1 g15 => ?_)
    simp (disch := omega) [w276_46, w276_47, rt276, rt276, aw_st, ai_cls, ai_len, ai_p, ai_sw, ai_m, ai_c, ai_at, ai_isI, ai_isJ, ai_isA, ai_ld, ai_1i, ai_2i, ai_2l, ai_cn, ai_j, ai_set, ai_set2, ai_nl, ai_rs, ai_sm, Value.category, hk0, hk1, lits, litb, litm, litm2, List.getElem?_cons_zero, List.getElem?_cons_succ, or_n0, bit_r, fi0, fi1, fi2, fi3, nI_toInt, nI_add, pk_mul, nI_leI, nI_ltI, nI_eq, pk_sub, ib_nI, nI_clamp, va_up_self, va_up_ne, va_up_up, va_up_comm, pk_us, pk_un, upd_up, updL_up, pk_uLs, pk_uLn, b01_1, b01_0, b01_1s, b01_0s, or_b, mm200, mu200, mm201, mu201, mm202, mu202, mm203, mu203, mm204, mu204, mm205, mu205, mm206, mu206, mm207, mu207, mm208, mu208, mm209, mu209, mm210, mu210, mm211, mu211, mm212, mu212, mm213, mu213, mm214, mu214, mm215, mu215, mm216, mu216, mm217, mu217, mm218, mu218, mm219, mu219, mm220, mu220, mm221, mu221, mm222, mu222, mm223, mu223, mm224, mu224, mm225, mu225, mm226, mu226, mm227, mu227, mm228, mu228, mm229, mu229, mm230, mu230]
    have sz : SR Z [] [] 0 false := ⟨z56, z57, z58, z59, by rw [z60, e0], fun q hq => absurd hq (by simp), trivial, fun a ha => absurd ha (by simp)⟩
    refine hQ X1 Y1 ⟨fun k a b c e => by rw [f1.1 k a]; exact z k a, fun j _ => by rw [f1.1 201 (by omega), z 201 (by omega)], fun j a1 a2 a3 a4 a5 => ?_, ?_, ?_, f1.2.1⟩ (by rw [f1.1 201 (by omega), z 201 (by omega)]) ⟨SR_h sz f1, r1, Nat.zero_le _, rfl⟩ ⟨by rw [f1.1 200 (by omega)]; exact ok.1, ok.2⟩ (by rw [g15, z15])
    · rw [f1.2.2 j (by omega) (by omega) a4]
      exact zo j a1 a2 (by omega) a5
    · rw [f1.2.2 0 (by omega) (by omega) (by omega), z0]
    · rw [f1.2.2 2 (by omega) (by omega) (by omega), z2]
  refine go _ (fun k a => va_up_ne _ _ a) ?_ ?_ ?_ ?_ ?_ ?_ ?_ ?_ ?_ ?_ ?_ (fun j a1 a2 a3 a4 => ?_)
  all_goals (rw [va_up_self]; simp [upd])
  simp [show ¬ j = 0 by omega, show ¬ j = 2 by omega, show ¬ j = 3 by omega, show ¬ j = 4 by omega, show ¬ j = 5 by omega, show ¬ j = 15 by omega, show ¬ j = 56 by omega, show ¬ j = 57 by omega, show ¬ j = 58 by omega, show ¬ j = 59 by omega, show ¬ j = 60 by omega]
theorem RSX_kx {X X1 X' : mX} {Y Y1 Y' : mY} (h : RSX X Y X1 Y1) (f : KX X1 Y1 X' Y') : RSX X Y X' Y' := by
  obtain ⟨h1, h2, h3, h4, h5, h6⟩ := h
  refine ⟨fun k a b c e => by rw [f.1 k a c e]; exact h1 k a b c e, fun j a => by rw [f.1 201 (by omega) (by omega) (by omega)]; exact h2 j a, fun j a1 a2 a3 a4 a5 => by rw [f.2.2 j (by omega) a3 a4 a5]; exact h3 j a1 a2 a3 a4 a5, ?_, ?_, fun k a => by rw [f.2.1 k a]; exact h6 k a⟩
  · rw [f.2.2 0 (by omega) (by omega) (by omega) (by omega)]; exact h4
  · rw [f.2.2 2 (by omega) (by omega) (by omega) (by omega)]; exact h5
theorem rsent_bad {X : mX} {Y : mY} {e j : Nat} (hR : ∀ k, k < 21 → Y 205 k = kl k) (hN : RNM X Y nm P S) (hT : TB8 (X 200) t) (h2 : X 199 2 = nI n) (hn : n ≤ 940) (hg : goS (t, n, 200) nm P S (false, 0, 0, [], [], 1) (.inl (e, j))) (hQ : ∀ X' Y', RSX X Y X' Y' → X' 201 = X 201 → X' 199 15 = nI e → Q [.int (mi1 - nI (cP (t, n, 200) j))] 231 sl (mem X' Y')) : aw ET G (d + 4) 276 0 [some (.ref 199), none, none] [] 231 sl (mem X Y) Q := by
  obtain ⟨m, hm⟩ := hg
  refine rs_begin hT h2 hn (fun X1 Y1 f1 e201 s1 ok1 e15 => ?_)
  refine rs_run _ m _ X1 Y1 hm (fun k hk => by rw [f1.2.2.2.2.2 205 (by omega)]; exact hR k hk) (RNM.cg hN e201 (f1.2.2.2.2.2 204 (by omega))) ok1 s1 ⟨by decide, by decide⟩ (fun e' j' q X' Y' f b15 => ?_) (fun a' q => by cases q)
  injection q with q
  injection q with q1 q2
  subst q1 q2
  exact hQ X' Y' (RSX_kx f1 f) (by rw [f.1 201 (by omega) (by omega) (by omega), e201]) b15
set_option maxHeartbeats 16000000 in
theorem rsent_ok {X : mX} {Y : mY} {i' o' : Nat} {L' : List SC} (hR : ∀ k, k < 21 → Y 205 k = kl k) (hN : RNM X Y nm P S) (hT : TB8 (X 200) t) (h2 : X 199 2 = nI n) (hn : n ≤ 940) (hg : sentOk (t, n, 200) nm P S i' o' L') (hQ : ∀ X' Y', RSX X Y X' Y' → SKr X' L' → X' 199 15 = nI 0 → Q [.int (nI o')] 231 sl (mem X' Y')) : aw ET G (d + 4) 276 0 [some (.ref 199), none, none] [] 231 sl (mem X Y) Q := by
  obtain ⟨hk0, hgd, k, a, b, L1, eL, m, hm⟩ := hg
  have hlen := GD_len hgd
  have ho' := hgd.2.1
  have hl40 : L'.length ≤ 40 := by
    have : ([] : List SC).length = 0 := rfl
    omega
  refine rs_begin hT h2 hn (fun X1 Y1 f1 e201 s1 ok1 e15 => ?_)
  refine rs_run _ m _ X1 Y1 hm (fun k hk => by rw [f1.2.2.2.2.2 205 (by omega)]; exact hR k hk) (RNM.cg hN e201 (f1.2.2.2.2.2 204 (by omega))) ok1 s1 ⟨by decide, by decide⟩ (fun e' j' q => by cases q) (fun a' q hv X' Y' f g b15 => ?_)
  injection q with q
  subst q
  obtain ⟨sr, r, hi, hdp⟩ := g
  have sr : SR X' L1 (rp k ++ aS a (oS b [])) o' true := sr
  have r : RDR (t, n, 200) i' (X' 199) (Y' 199) := r
  have hdp : 1 + k = dcS (rp k ++ aS a (oS b [])) := hdp
  have hv1 : o' ≤ 20 := hv.1
  have hv2 : L1.length + (rp k ++ aS a (oS b [])).length + 1 ≤ 2 * o' := hv.2
  have e1 : b01 (true = true) = nI 1 := by decide
  have e60 : X' 199 60 = nI 1 := by rw [← e1]; exact sr.2.2.2.2.1
  have h11 : X' 199 11 = nI 0 := by
    have : X' 199 11 = nI (rkN (cK (t, n, 200) i')) := r.2.2.2.1
    rw [this, hk0]
    rfl
  rw [w276_48]
  simp (disch := omega) [w276_49, w276_52, x276_53, w276_56, w276_59, x276_60, w276_63, w276_66, rt276, rt276, aw_st, ai_cls, ai_len, ai_p, ai_sw, ai_m, ai_c, ai_at, ai_isI, ai_isJ, ai_isA, ai_ld, ai_1i, ai_2i, ai_2l, ai_cn, ai_j, ai_set, ai_set2, ai_nl, ai_rs, ai_sm, Value.category, hk0, hk1, lits, litb, litm, litm2, List.getElem?_cons_zero, List.getElem?_cons_succ, or_n0, bit_r, fi0, fi1, fi2, fi3, nI_toInt, nI_add, pk_mul, nI_leI, nI_ltI, nI_eq, pk_sub, ib_nI, nI_clamp, va_up_self, va_up_ne, va_up_up, va_up_comm, pk_us, pk_un, upd_up, updL_up, pk_uLs, pk_uLn, b01_1, b01_0, b01_1s, b01_0s, or_b, mm200, mu200, mm201, mu201, mm202, mu202, mm203, mu203, mm204, mu204, mm205, mu205, mm206, mu206, mm207, mu207, mm208, mu208, mm209, mu209, mm210, mu210, mm211, mu211, mm212, mu212, mm213, mu213, mm214, mu214, mm215, mu215, mm216, mu216, mm217, mu217, mm218, mu218, mm219, mu219, mm220, mu220, mm221, mu221, mm222, mu222, mm223, mu223, mm224, mu224, mm225, mu225, mm226, mu226, mm227, mu227, mm228, mu228, mm229, mu229, mm230, mu230, e60, h11]
  rw [x276_67, if_pos (by decide)]
  refine nots_wp (d := d + 2) _ L1 X' sr (by omega) (fun X2 z2 s2 => ?_)
  have en := nt_at (τ := []) (Or.inl rfl) a b k L1 1
  rw [hdp] at en
  rw [en] at s2
  simp (disch := omega) [w276_70, w276_71, rt276, rt276, aw_st, ai_cls, ai_len, ai_p, ai_sw, ai_m, ai_c, ai_at, ai_isI, ai_isJ, ai_isA, ai_ld, ai_1i, ai_2i, ai_2l, ai_cn, ai_j, ai_set, ai_set2, ai_nl, ai_rs, ai_sm, Value.category, hk0, hk1, lits, litb, litm, litm2, List.getElem?_cons_zero, List.getElem?_cons_succ, or_n0, bit_r, fi0, fi1, fi2, fi3, nI_toInt, nI_add, pk_mul, nI_leI, nI_ltI, nI_eq, pk_sub, ib_nI, nI_clamp, va_up_self, va_up_ne, va_up_up, va_up_comm, pk_us, pk_un, upd_up, updL_up, pk_uLs, pk_uLn, b01_1, b01_0, b01_1s, b01_0s, or_b, mm200, mu200, mm201, mu201, mm202, mu202, mm203, mu203, mm204, mu204, mm205, mu205, mm206, mu206, mm207, mu207, mm208, mu208, mm209, mu209, mm210, mu210, mm211, mu211, mm212, mu212, mm213, mu213, mm214, mu214, mm215, mu215, mm216, mu216, mm217, mu217, mm218, mu218, mm219, mu219, mm220, mu220, mm221, mu221, mm222, mu222, mm223, mu223, mm224, mu224, mm225, mu225, mm226, mu226, mm227, mu227, mm228, mu228, mm229, mu229, mm230, mu230]
  rw [x276_73, if_pos (by decide)]
  have hb2 : (L1 ++ rq k).length + (aS a (oS b [])).length ≤ 44 := by
    have e := (nt_dc (rp k ++ aS a (oS b [])) L1).2
    rw [en] at e
    have e : (L1 ++ rq k).length + (aS a (oS b [])).length = L1.length + (rp k ++ aS a (oS b [])).length := e
    omega
  refine joins_wp (d := d + 2) (v := 22) (a := 11) (Or.inr ⟨rfl, rfl⟩) _ (L1 ++ rq k) X2 s2 hb2 (fun X3 z3 s3 => ?_)
  rw [jn_a11 (Or.inl rfl), ← eL] at s3
  have s3 : SR X3 L' [] o' true := s3
  have e58 : X3 199 58 = nI 0 := s3.2.2.1
  simp (disch := omega) [w276_76, x276_77, w276_80, w276_96, w276_97, w276_98, rt276, rt276, aw_st, ai_cls, ai_len, ai_p, ai_sw, ai_m, ai_c, ai_at, ai_isI, ai_isJ, ai_isA, ai_ld, ai_1i, ai_2i, ai_2l, ai_cn, ai_j, ai_set, ai_set2, ai_nl, ai_rs, ai_sm, Value.category, hk0, hk1, lits, litb, litm, litm2, List.getElem?_cons_zero, List.getElem?_cons_succ, or_n0, bit_r, fi0, fi1, fi2, fi3, nI_toInt, nI_add, pk_mul, nI_leI, nI_ltI, nI_eq, pk_sub, ib_nI, nI_clamp, va_up_self, va_up_ne, va_up_up, va_up_comm, pk_us, pk_un, upd_up, updL_up, pk_uLs, pk_uLn, b01_1, b01_0, b01_1s, b01_0s, or_b, mm200, mu200, mm201, mu201, mm202, mu202, mm203, mu203, mm204, mu204, mm205, mu205, mm206, mu206, mm207, mu207, mm208, mu208, mm209, mu209, mm210, mu210, mm211, mu211, mm212, mu212, mm213, mu213, mm214, mu214, mm215, mu215, mm216, mu216, mm217, mu217, mm218, mu218, mm219, mu219, mm220, mu220, mm221, mu221, mm222, mu222, mm223, mu223, mm224, mu224, mm225, mu225, mm226, mu226, mm227, mu227, mm228, mu228, mm229, mu229, mm230, mu230, e58]
  rw [w276_48]
  simp (disch := omega) [w276_49, w276_132, x276_133, w276_136, w276_139, x276_140, w276_143, w276_144, w276_145, rt276, rt276, aw_st, ai_cls, ai_len, ai_p, ai_sw, ai_m, ai_c, ai_at, ai_isI, ai_isJ, ai_isA, ai_ld, ai_1i, ai_2i, ai_2l, ai_cn, ai_j, ai_set, ai_set2, ai_nl, ai_rs, ai_sm, Value.category, hk0, hk1, lits, litb, litm, litm2, List.getElem?_cons_zero, List.getElem?_cons_succ, or_n0, bit_r, fi0, fi1, fi2, fi3, nI_toInt, nI_add, pk_mul, nI_leI, nI_ltI, nI_eq, pk_sub, ib_nI, nI_clamp, va_up_self, va_up_ne, va_up_up, va_up_comm, pk_us, pk_un, upd_up, updL_up, pk_uLs, pk_uLn, b01_1, b01_0, b01_1s, b01_0s, or_b, mm200, mu200, mm201, mu201, mm202, mu202, mm203, mu203, mm204, mu204, mm205, mu205, mm206, mu206, mm207, mu207, mm208, mu208, mm209, mu209, mm210, mu210, mm211, mu211, mm212, mu212, mm213, mu213, mm214, mu214, mm215, mu215, mm216, mu216, mm217, mu217, mm218, mu218, mm219, mu219, mm220, mu220, mm221, mu221, mm222, mu222, mm223, mu223, mm224, mu224, mm225, mu225, mm226, mu226, mm227, mu227, mm228, mu228, mm229, mu229, mm230, mu230, s3.1]
  refine rs_copy (L := L') (o := o') (f0 := upd (X3 201) 257 (nI L'.length)) rfl hl40 s3.1 s3.2.1 (3 * L'.length) 0 _ (by omega) (fun j _ => rfl) (fun q hq => by omega) (fun f' g1 g2 => ?_)
  have kx := RSX_kx f1 (f.tr (z2.tr z3).kx)
  refine hQ _ Y' ⟨fun k a b c e => by rw [va_up_ne _ _ b]; exact kx.1 k a b c e, fun j hj => ?_, fun j a1 a2 a3 a4 a5 => by rw [va_up_ne _ _ (by omega)]; exact kx.2.2.1 j a1 a2 a3 a4 a5, by rw [va_up_ne _ _ (by omega)]; exact kx.2.2.2.1, by rw [va_up_ne _ _ (by omega)]; exact kx.2.2.2.2.1, kx.2.2.2.2.2⟩ ⟨?_, fun q hq => ?_⟩ ?_
  · rw [va_up_self, g1 j (by omega), pk_un (by omega)]
    exact kx.2.1 j hj
  · rw [va_up_self, g1 257 (by omega), pk_us]
  · obtain ⟨q1, q2, q3⟩ := s3.2.2.2.2.2.1 q hq
    rw [va_up_self]
    refine ⟨?_, ?_, ?_⟩
    · rw [g2 (3 * q) (by omega)]; exact q1
    · rw [show 258 + 3 * q + 1 = 258 + (3 * q + 1) by omega, g2 (3 * q + 1) (by omega)]; exact q2
    · rw [show 258 + 3 * q + 2 = 258 + (3 * q + 2) by omega, g2 (3 * q + 2) (by omega)]; exact q3
  · rw [va_up_ne _ _ (by omega), z3.2 15 (by omega), z2.2 15 (by omega), b15, e15]
end RSF
