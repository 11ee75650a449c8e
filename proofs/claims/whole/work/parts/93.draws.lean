/-! THE CLASS'S YEARS BY SEEDS -/
section DRW
variable {G : ai_G} {d sl : Nat} {Q : List Value → Nat → Nat → ai_M → Prop} {P S : Nat} {Y : mY} {X : mX} {l l' k : Nat → Nat → Int32}
theorem plv_self {o : Nat} : plv X o (lv X o) = X := by
  funext j
  unfold plv lv
  by_cases c : j = o
  · simp only [c, if_true]
    funext i
    by_cases e : 9 ≤ i ∧ i ≤ 13
    · simp only [e, and_self, if_true, show ¬ i ≤ 8 by omega, if_false]
    · simp only [e, if_false]
  · simp only [c, if_false]
    by_cases e : o < j ∧ j ≤ o + 8
    · simp only [e, and_self, if_true, show j - o ≤ 8 by omega, show o + (j - o) = j by omega]
    · simp only [e, if_false]
theorem LEQ_vf (h : LEQ l l') (i : Nat) {f f' : Nat → Int32} (hf : f = f') : LEQ (vf_upd l i f) (vf_upd l' i f') := by
  subst hf
  refine ⟨fun j a b => ?_, fun j a b => ?_⟩
  · unfold vf_upd
    split
    · rfl
    · exact h.1 j a b
  · unfold vf_upd
    split
    · rfl
    · exact h.2 j a b
theorem whyI_cg (h : LEQ l l') {a b : Nat} {x : Int32} : whyI l k a b x = whyI l' k a b x := by
  unfold whyI
  rw [h.1 2 (by omega) (by omega), h.1 1 (by omega) (by omega), h.2 9 (by omega) (by omega)]
theorem hearL_cg (h : LEQ l l') {a b : Nat} {x : Int32} : LEQ (hearL l k a b x) (hearL l' k a b x) := by
  have e1 := h.1 1 (by omega) (by omega)
  have e2 := h.1 2 (by omega) (by omega)
  have e3 := h.1 3 (by omega) (by omega)
  have e4 := h.1 4 (by omega) (by omega)
  have e5 := h.1 5 (by omega) (by omega)
  have e11 := h.2 11 (by omega) (by omega)
  have e13 := h.2 13 (by omega) (by omega)
  have hA : LEQ (hearA l a b x) (hearA l' a b x) := by
    unfold hearA
    exact LEQ_vf (LEQ_vf (LEQ_vf (LEQ_vf h 2 (by rw [e2])) 3 (by rw [e3])) 4 (by rw [e4])) 13 (by rw [e13])
  unfold hearL
  refine LEQ_vf ?_ 5 (by rw [e5])
  unfold hearB
  split
  · exact LEQ_vf hA 11 (by rw [e11])
  · exact LEQ_vf hA 1 (by rw [e1])
theorem dayS_cg (h : LEQ l l') (p : Nat) : LEQ (dayS l k p) (dayS l' k p) := by
  have e1 := h.1 1 (by omega) (by omega)
  have e2 := h.1 2 (by omega) (by omega)
  have e5 := h.1 5 (by omega) (by omega)
  have e9 := h.2 9 (by omega) (by omega)
  have hA : LEQ (dayA l k p) (dayA l' k p) := by
    unfold dayA
    rw [e5]
    split
    · exact LEQ_vf h 9 (by rw [e9])
    · exact h
  unfold dayS
  exact LEQ_vf (LEQ_vf hA 2 (by rw [e2])) 1 (by rw [e1])
theorem dayR_cg : ∀ (r p : Nat) (l l' : Nat → Nat → Int32), LEQ l l' → LEQ (dayR k p r l) (dayR k p r l') := by
  intro r
  induction r with
  | zero =>
    intro p l l' h
    unfold dayR
    exact LEQ_vf h 10 (by rw [h.2 10 (by omega) (by omega)])
  | succ r ih =>
    intro p l l' h
    unfold dayR
    exact ih _ _ _ (dayS_cg h p)
set_option maxHeartbeats 8000000 in
set_option maxRecDepth 20000 in
theorem tal_61 {N T : Nat} {v3 v6 : Int32} (hT : T ≤ 100) (hP : P ≤ 8) (hP0 : 0 < P) (hk : X 47 7 = nI P) : ∀ (r j : Nat) (l : Nat → Nat → Int32) (x dn : Int32) (za zb zc : Option Value), j + r = T → (∀ (za zb zc : Option Value), aw ET G (d + 4) 136 115 [some (.ref 61), some (.int (nI N)), some (.int (nI T)), some (.int v3), some (.int (talksR (cv X 47) P r (l, x, dn)).2.2), some (.int (talksR (cv X 47) P r (l, x, dn)).2.1), some (.int v6), some (.int (nI T)), za, zb, zc] [] 231 sl (mem (plv X 61 (talksR (cv X 47) P r (l, x, dn)).1) Y) Q) → aw ET G (d + 4) 136 18 [some (.ref 61), some (.int (nI N)), some (.int (nI T)), some (.int v3), some (.int dn), some (.int x), some (.int v6), some (.int (nI j)), za, zb, zc] [] 231 sl (mem (plv X 61 l) Y) Q := by
  intro r
  induction r with
  | zero =>
    intro j l x dn za zb zc hj hQ
    have : j = T := by omega
    subst this
    have := hQ za zb zc
    simp only [talksR] at this
    simp (disch := omega) [w136_18, w136_20, w136_21, aw_st, ai_cls, ai_len, ai_p, ai_sw, ai_m, ai_c, ai_at, ai_isI, ai_isJ, ai_isA, ai_ld, ai_1i, ai_2i, ai_2l, ai_cn, ai_j, ai_set, ai_set2, ai_nl, ai_rs, ai_sm, Value.category, hk0, hk1, lits, litb, litm, litm2, List.getElem?_cons_zero, List.getElem?_cons_succ, or_n0, bit_r, fi0, fi1, fi2, fi3, nI_toInt, nI_add, pk_mul, nI_leI, nI_ltI, nI_eq, pk_sub, ib_nI, nI_clamp, va_up_self, va_up_ne, va_up_up, va_up_comm, pk_us, pk_un, upd_up, updL_up, pk_uLs, pk_uLn, b01_1, b01_0, b01_1s, b01_0s, or_b]
    exact this
  | succ r ih =>
    intro j l x dn za zb zc hj hQ
    obtain ⟨a, ha, ea⟩ := draw_nat (x := turnI x) hP0 (show P < 2 ^ 31 by omega)
    obtain ⟨b, hb, eb⟩ := draw_nat (x := turnI (turnI x)) hP0 (show P < 2 ^ 31 by omega)
    obtain ⟨c, hc, ec⟩ := draw_nat (x := turnI (turnI (turnI x))) (M := 3) (by omega) (by omega)
    have ia : iN (nI a) = a := iN_nI (by omega)
    have ib : iN (nI b) = b := iN_nI (by omega)
    have ic : iN (nI c) = c := iN_nI (by omega)
    have hts : talkS (cv X 47) P (l, x, dn) = if whyI l (cv X 47) a b (nI (c + 1)) = 0 then (hearL l (cv X 47) a b (nI (c + 1)), turnI (turnI (turnI x)), dn + 1) else (l, turnI (turnI (turnI x)), dn) := by
      unfold talkS
      rw [ea, eb, ec, ia, ib, ic]
    have htu : ∀ (x : Int32) (Q : List Value → Nat → Nat → ai_M → Prop), aw ET G (d + 3) 137 0 [some (.int x)] [] 231 sl (mem (plv X 61 l) Y) Q = Q [.int (turnI x)] 231 sl (mem (plv X 61 l) Y) := fun x Q => turned_eq
    have ho : isHT 61 := by simp [isHT]
    have hcv : cv (plv X 61 l) 47 = cv X 47 := cv_plv (by omega)
    have h47 : plv X 61 l 47 = X 47 := plv_out (by omega)
    have hw : ∀ (Q : List Value → Nat → Nat → ai_M → Prop), aw ET G (d + 3) 68 0 [some (.ref 61), some (.int (nI a)), some (.int (nI b)), some (.int (nI (c + 1)))] [] 231 sl (mem (plv X 61 l) Y) Q = Q [.int (whyI l (cv X 47) a b (nI (c + 1)))] 231 sl (mem (plv X 61 l) Y) := fun Q => by
      rw [whyM' ho (by omega) (by omega), hcv, whyI_cg (LEQ_plv l)]
    have hh : ∀ (Q : List Value → Nat → Nat → ai_M → Prop), aw ET G (d + 3) 72 0 [some (.ref 61), some (.int (nI a)), some (.int (nI b)), some (.int (nI (c + 1)))] [] 231 sl (mem (plv X 61 l) Y) Q = Q [] 231 sl (mem (plv X 61 (hearL l (cv X 47) a b (nI (c + 1)))) Y) := fun Q => by
      rw [hearM ho (by omega) (by omega), hcv, plv_plv, plv_cg (hearL_cg (LEQ_plv l))]
    simp only [talksR, hts] at hQ
    rw [w136_18]
    by_cases hz : whyI l (cv X 47) a b (nI (c + 1)) = nI 0
    · have hz' : whyI l (cv X 47) a b (nI (c + 1)) = 0 := hz
      rw [if_pos hz'] at hQ
      have := ih (j + 1) (hearL l (cv X 47) a b (nI (c + 1))) (turnI (turnI (turnI x))) (dn + nI 1) (some (.int (nI a))) (some (.int (nI b))) (some (.int (nI (c + 1)))) (by omega) hQ
      simp (disch := omega) [w136_0, w136_1, w136_3, w136_4, w136_6, w136_7, w136_11, w136_12, w136_15, w136_16, w136_20, w136_21, w136_24, x136_26, w136_29, w136_31, w136_33, x136_34_61, x136_37_47, x136_40, w136_43, w136_45, x136_47, w136_50, w136_52, w136_54, x136_55_61, x136_58_47, x136_61, w136_64, w136_66, x136_68, w136_71, w136_73, w136_75, x136_76, w136_79, w136_80, w136_81, w136_83, w136_84, w136_86, w136_88, x136_90_61, w136_93, w136_96, w136_97, w136_99, w136_101, x136_103_61, w136_106, w136_109, w136_112, w136_115, x136_116_61, w136_119, w136_122, w136_125, w136_127, rt136, aw_st, ai_cls, ai_len, ai_p, ai_sw, ai_m, ai_c, ai_at, ai_isI, ai_isJ, ai_isA, ai_ld, ai_1i, ai_2i, ai_2l, ai_cn, ai_j, ai_set, ai_set2, ai_nl, ai_rs, ai_sm, Value.category, hk0, hk1, lits, litb, litm, litm2, List.getElem?_cons_zero, List.getElem?_cons_succ, or_n0, bit_r, fi0, fi1, fi2, fi3, nI_toInt, nI_add, pk_mul, nI_leI, nI_ltI, nI_eq, pk_sub, ib_nI, nI_clamp, va_up_self, va_up_ne, va_up_up, va_up_comm, pk_us, pk_un, upd_up, updL_up, pk_uLs, pk_uLn, b01_1, b01_0, b01_1s, b01_0s, or_b, htu, h47, hk, draw_eq, ea, eb, ec, hw, hz, hh, show ¬ T ≤ j by omega]
      exact this
    · have hz' : ¬ whyI l (cv X 47) a b (nI (c + 1)) = 0 := hz
      rw [if_neg hz'] at hQ
      have := ih (j + 1) l (turnI (turnI (turnI x))) dn (some (.int (nI a))) (some (.int (nI b))) (some (.int (nI (c + 1)))) (by omega) hQ
      simp (disch := omega) [w136_0, w136_1, w136_3, w136_4, w136_6, w136_7, w136_11, w136_12, w136_15, w136_16, w136_20, w136_21, w136_24, x136_26, w136_29, w136_31, w136_33, x136_34_61, x136_37_47, x136_40, w136_43, w136_45, x136_47, w136_50, w136_52, w136_54, x136_55_61, x136_58_47, x136_61, w136_64, w136_66, x136_68, w136_71, w136_73, w136_75, x136_76, w136_79, w136_80, w136_81, w136_83, w136_84, w136_86, w136_88, x136_90_61, w136_93, w136_96, w136_97, w136_99, w136_101, x136_103_61, w136_106, w136_109, w136_112, w136_115, x136_116_61, w136_119, w136_122, w136_125, w136_127, rt136, aw_st, ai_cls, ai_len, ai_p, ai_sw, ai_m, ai_c, ai_at, ai_isI, ai_isJ, ai_isA, ai_ld, ai_1i, ai_2i, ai_2l, ai_cn, ai_j, ai_set, ai_set2, ai_nl, ai_rs, ai_sm, Value.category, hk0, hk1, lits, litb, litm, litm2, List.getElem?_cons_zero, List.getElem?_cons_succ, or_n0, bit_r, fi0, fi1, fi2, fi3, nI_toInt, nI_add, pk_mul, nI_leI, nI_ltI, nI_eq, pk_sub, ib_nI, nI_clamp, va_up_self, va_up_ne, va_up_up, va_up_comm, pk_us, pk_un, upd_up, updL_up, pk_uLs, pk_uLn, b01_1, b01_0, b01_1s, b01_0s, or_b, htu, h47, hk, draw_eq, ea, eb, ec, hw, hz, show ¬ T ≤ j by omega]
      exact this
set_option maxHeartbeats 8000000 in
theorem yrs_61 {N T : Nat} {v3 : Int32} (hT : T ≤ 100) (hN : N ≤ 1000) (hP : P ≤ 8) (hP0 : 0 < P) (hk : X 47 7 = nI P) : ∀ (r i : Nat) (l : Nat → Nat → Int32) (x dn : Int32) (z7 za zb zc : Option Value) (Q : List Value → Nat → Nat → ai_M → Prop), i + r = N → aw ET G (d + 4) 136 9 [some (.ref 61), some (.int (nI N)), some (.int (nI T)), some (.int v3), some (.int dn), some (.int x), some (.int (nI i)), z7, za, zb, zc] [] 231 sl (mem (plv X 61 l) Y) Q = Q [.int (drawsR (cv X 47) P T r (l, x, dn)).2.2] 231 sl (mem (plv X 61 (drawsR (cv X 47) P T r (l, x, dn)).1) Y) := by
  intro r
  induction r with
  | zero =>
    intro i l x dn z7 za zb zc Q hi
    have : i = N := by omega
    subst this
    simp (disch := omega) [w136_9, w136_11, w136_12, w136_125, w136_127, rt136, aw_st, ai_cls, ai_len, ai_p, ai_sw, ai_m, ai_c, ai_at, ai_isI, ai_isJ, ai_isA, ai_ld, ai_1i, ai_2i, ai_2l, ai_cn, ai_j, ai_set, ai_set2, ai_nl, ai_rs, ai_sm, Value.category, hk0, hk1, lits, litb, litm, litm2, List.getElem?_cons_zero, List.getElem?_cons_succ, or_n0, bit_r, fi0, fi1, fi2, fi3, nI_toInt, nI_add, pk_mul, nI_leI, nI_ltI, nI_eq, pk_sub, ib_nI, nI_clamp, va_up_self, va_up_ne, va_up_up, va_up_comm, pk_us, pk_un, upd_up, updL_up, pk_uLs, pk_uLn, b01_1, b01_0, b01_1s, b01_0s, or_b, drawsR]
  | succ r ih =>
    intro i l x dn z7 za zb zc Q hi
    refine aw_out (fun Q hQ => ?_) Q
    rw [w136_9]
    simp (disch := omega) [w136_11, w136_12, w136_15, w136_16, aw_st, ai_cls, ai_len, ai_p, ai_sw, ai_m, ai_c, ai_at, ai_isI, ai_isJ, ai_isA, ai_ld, ai_1i, ai_2i, ai_2l, ai_cn, ai_j, ai_set, ai_set2, ai_nl, ai_rs, ai_sm, Value.category, hk0, hk1, lits, litb, litm, litm2, List.getElem?_cons_zero, List.getElem?_cons_succ, or_n0, bit_r, fi0, fi1, fi2, fi3, nI_toInt, nI_add, pk_mul, nI_leI, nI_ltI, nI_eq, pk_sub, ib_nI, nI_clamp, va_up_self, va_up_ne, va_up_up, va_up_comm, pk_us, pk_un, upd_up, updL_up, pk_uLs, pk_uLn, b01_1, b01_0, b01_1s, b01_0s, or_b, show ¬ N ≤ i by omega]
    refine tal_61 (P := P) (v3 := v3) hT hP hP0 hk T 0 l x dn _ _ _ (by omega) (fun za zb zc => ?_)
    have ho : isHT 61 := by simp [isHT]
    have hd : ∀ (l : Nat → Nat → Int32) (Q : List Value → Nat → Nat → ai_M → Prop), aw ET G (d + 3) 86 0 [some (.ref 61), none] [] 231 sl (mem (plv X 61 l) Y) Q = Q [] 231 sl (mem (plv X 61 (dayR (cv X 47) 0 P l)) Y) := fun l Q => by
      rw [dayM (P := P) ho hP (by rw [plv_out (by omega)]; exact hk), cv_plv (by omega), plv_plv, plv_cg (dayR_cg _ _ _ _ (LEQ_plv l))]
    simp (disch := omega) [w136_0, w136_1, w136_3, w136_4, w136_6, w136_7, w136_11, w136_12, w136_15, w136_16, w136_20, w136_21, w136_24, x136_26, w136_29, w136_31, w136_33, x136_34_61, x136_37_47, x136_40, w136_43, w136_45, x136_47, w136_50, w136_52, w136_54, x136_55_61, x136_58_47, x136_61, w136_64, w136_66, x136_68, w136_71, w136_73, w136_75, x136_76, w136_79, w136_80, w136_81, w136_83, w136_84, w136_86, w136_88, x136_90_61, w136_93, w136_96, w136_97, w136_99, w136_101, x136_103_61, w136_106, w136_109, w136_112, w136_115, x136_116_61, w136_119, w136_122, w136_125, w136_127, rt136, aw_st, ai_cls, ai_len, ai_p, ai_sw, ai_m, ai_c, ai_at, ai_isI, ai_isJ, ai_isA, ai_ld, ai_1i, ai_2i, ai_2l, ai_cn, ai_j, ai_set, ai_set2, ai_nl, ai_rs, ai_sm, Value.category, hk0, hk1, lits, litb, litm, litm2, List.getElem?_cons_zero, List.getElem?_cons_succ, or_n0, bit_r, fi0, fi1, fi2, fi3, nI_toInt, nI_add, pk_mul, nI_leI, nI_ltI, nI_eq, pk_sub, ib_nI, nI_clamp, va_up_self, va_up_ne, va_up_up, va_up_comm, pk_us, pk_un, upd_up, updL_up, pk_uLs, pk_uLn, b01_1, b01_0, b01_1s, b01_0s, or_b, hd]
    rw [ih (i + 1) _ _ _ _ _ _ _ _ (by omega)]
    exact hQ
theorem draws_61 {N T : Nat} {x : Int32} (hT : T ≤ 100) (hN : N ≤ 1000) (hP : P ≤ 8) (hP0 : 0 < P) (hk : X 47 7 = nI P) : aw ET G (d + 4) 136 0 [some (.ref 61), some (.int (nI N)), some (.int (nI T)), some (.int x), none, none, none, none, none, none, none] [] 231 sl (mem X Y) Q = Q [.int (drawsR (cv X 47) P T N (lv X 61, x, 0)).2.2] 231 sl (mem (plv X 61 (drawsR (cv X 47) P T N (lv X 61, x, 0)).1) Y) := by
  have := yrs_61 (G := G) (d := d) (sl := sl) (Y := Y) (X := X) (v3 := x) hT hN hP hP0 hk N 0 (lv X 61) x 0 none none none none Q (by omega)
  rw [plv_self] at this
  simp (disch := omega) [w136_0, w136_1, w136_3, w136_4, w136_6, w136_7, aw_st, ai_cls, ai_len, ai_p, ai_sw, ai_m, ai_c, ai_at, ai_isI, ai_isJ, ai_isA, ai_ld, ai_1i, ai_2i, ai_2l, ai_cn, ai_j, ai_set, ai_set2, ai_nl, ai_rs, ai_sm, Value.category, hk0, hk1, lits, litb, litm, litm2, List.getElem?_cons_zero, List.getElem?_cons_succ, or_n0, bit_r, fi0, fi1, fi2, fi3, nI_toInt, nI_add, pk_mul, nI_leI, nI_ltI, nI_eq, pk_sub, ib_nI, nI_clamp, va_up_self, va_up_ne, va_up_up, va_up_comm, pk_us, pk_un, upd_up, updL_up, pk_uLs, pk_uLn, b01_1, b01_0, b01_1s, b01_0s, or_b] at this ⊢
  exact this
set_option maxHeartbeats 8000000 in
set_option maxRecDepth 20000 in
theorem tal_70 {N T : Nat} {v3 v6 : Int32} (hT : T ≤ 100) (hP : P ≤ 8) (hP0 : 0 < P) (hk : X 47 7 = nI P) : ∀ (r j : Nat) (l : Nat → Nat → Int32) (x dn : Int32) (za zb zc : Option Value), j + r = T → (∀ (za zb zc : Option Value), aw ET G (d + 4) 136 115 [some (.ref 70), some (.int (nI N)), some (.int (nI T)), some (.int v3), some (.int (talksR (cv X 47) P r (l, x, dn)).2.2), some (.int (talksR (cv X 47) P r (l, x, dn)).2.1), some (.int v6), some (.int (nI T)), za, zb, zc] [] 231 sl (mem (plv X 70 (talksR (cv X 47) P r (l, x, dn)).1) Y) Q) → aw ET G (d + 4) 136 18 [some (.ref 70), some (.int (nI N)), some (.int (nI T)), some (.int v3), some (.int dn), some (.int x), some (.int v6), some (.int (nI j)), za, zb, zc] [] 231 sl (mem (plv X 70 l) Y) Q := by
  intro r
  induction r with
  | zero =>
    intro j l x dn za zb zc hj hQ
    have : j = T := by omega
    subst this
    have := hQ za zb zc
    simp only [talksR] at this
    simp (disch := omega) [w136_18, w136_20, w136_21, aw_st, ai_cls, ai_len, ai_p, ai_sw, ai_m, ai_c, ai_at, ai_isI, ai_isJ, ai_isA, ai_ld, ai_1i, ai_2i, ai_2l, ai_cn, ai_j, ai_set, ai_set2, ai_nl, ai_rs, ai_sm, Value.category, hk0, hk1, lits, litb, litm, litm2, List.getElem?_cons_zero, List.getElem?_cons_succ, or_n0, bit_r, fi0, fi1, fi2, fi3, nI_toInt, nI_add, pk_mul, nI_leI, nI_ltI, nI_eq, pk_sub, ib_nI, nI_clamp, va_up_self, va_up_ne, va_up_up, va_up_comm, pk_us, pk_un, upd_up, updL_up, pk_uLs, pk_uLn, b01_1, b01_0, b01_1s, b01_0s, or_b]
    exact this
  | succ r ih =>
    intro j l x dn za zb zc hj hQ
    obtain ⟨a, ha, ea⟩ := draw_nat (x := turnI x) hP0 (show P < 2 ^ 31 by omega)
    obtain ⟨b, hb, eb⟩ := draw_nat (x := turnI (turnI x)) hP0 (show P < 2 ^ 31 by omega)
    obtain ⟨c, hc, ec⟩ := draw_nat (x := turnI (turnI (turnI x))) (M := 3) (by omega) (by omega)
    have ia : iN (nI a) = a := iN_nI (by omega)
    have ib : iN (nI b) = b := iN_nI (by omega)
    have ic : iN (nI c) = c := iN_nI (by omega)
    have hts : talkS (cv X 47) P (l, x, dn) = if whyI l (cv X 47) a b (nI (c + 1)) = 0 then (hearL l (cv X 47) a b (nI (c + 1)), turnI (turnI (turnI x)), dn + 1) else (l, turnI (turnI (turnI x)), dn) := by
      unfold talkS
      rw [ea, eb, ec, ia, ib, ic]
    have htu : ∀ (x : Int32) (Q : List Value → Nat → Nat → ai_M → Prop), aw ET G (d + 3) 137 0 [some (.int x)] [] 231 sl (mem (plv X 70 l) Y) Q = Q [.int (turnI x)] 231 sl (mem (plv X 70 l) Y) := fun x Q => turned_eq
    have ho : isHT 70 := by simp [isHT]
    have hcv : cv (plv X 70 l) 47 = cv X 47 := cv_plv (by omega)
    have h47 : plv X 70 l 47 = X 47 := plv_out (by omega)
    have hw : ∀ (Q : List Value → Nat → Nat → ai_M → Prop), aw ET G (d + 3) 68 0 [some (.ref 70), some (.int (nI a)), some (.int (nI b)), some (.int (nI (c + 1)))] [] 231 sl (mem (plv X 70 l) Y) Q = Q [.int (whyI l (cv X 47) a b (nI (c + 1)))] 231 sl (mem (plv X 70 l) Y) := fun Q => by
      rw [whyM' ho (by omega) (by omega), hcv, whyI_cg (LEQ_plv l)]
    have hh : ∀ (Q : List Value → Nat → Nat → ai_M → Prop), aw ET G (d + 3) 72 0 [some (.ref 70), some (.int (nI a)), some (.int (nI b)), some (.int (nI (c + 1)))] [] 231 sl (mem (plv X 70 l) Y) Q = Q [] 231 sl (mem (plv X 70 (hearL l (cv X 47) a b (nI (c + 1)))) Y) := fun Q => by
      rw [hearM ho (by omega) (by omega), hcv, plv_plv, plv_cg (hearL_cg (LEQ_plv l))]
    simp only [talksR, hts] at hQ
    rw [w136_18]
    by_cases hz : whyI l (cv X 47) a b (nI (c + 1)) = nI 0
    · have hz' : whyI l (cv X 47) a b (nI (c + 1)) = 0 := hz
      rw [if_pos hz'] at hQ
      have := ih (j + 1) (hearL l (cv X 47) a b (nI (c + 1))) (turnI (turnI (turnI x))) (dn + nI 1) (some (.int (nI a))) (some (.int (nI b))) (some (.int (nI (c + 1)))) (by omega) hQ
      simp (disch := omega) [w136_0, w136_1, w136_3, w136_4, w136_6, w136_7, w136_11, w136_12, w136_15, w136_16, w136_20, w136_21, w136_24, x136_26, w136_29, w136_31, w136_33, x136_34_70, x136_37_47, x136_40, w136_43, w136_45, x136_47, w136_50, w136_52, w136_54, x136_55_70, x136_58_47, x136_61, w136_64, w136_66, x136_68, w136_71, w136_73, w136_75, x136_76, w136_79, w136_80, w136_81, w136_83, w136_84, w136_86, w136_88, x136_90_70, w136_93, w136_96, w136_97, w136_99, w136_101, x136_103_70, w136_106, w136_109, w136_112, w136_115, x136_116_70, w136_119, w136_122, w136_125, w136_127, rt136, aw_st, ai_cls, ai_len, ai_p, ai_sw, ai_m, ai_c, ai_at, ai_isI, ai_isJ, ai_isA, ai_ld, ai_1i, ai_2i, ai_2l, ai_cn, ai_j, ai_set, ai_set2, ai_nl, ai_rs, ai_sm, Value.category, hk0, hk1, lits, litb, litm, litm2, List.getElem?_cons_zero, List.getElem?_cons_succ, or_n0, bit_r, fi0, fi1, fi2, fi3, nI_toInt, nI_add, pk_mul, nI_leI, nI_ltI, nI_eq, pk_sub, ib_nI, nI_clamp, va_up_self, va_up_ne, va_up_up, va_up_comm, pk_us, pk_un, upd_up, updL_up, pk_uLs, pk_uLn, b01_1, b01_0, b01_1s, b01_0s, or_b, htu, h47, hk, draw_eq, ea, eb, ec, hw, hz, hh, show ¬ T ≤ j by omega]
      exact this
    · have hz' : ¬ whyI l (cv X 47) a b (nI (c + 1)) = 0 := hz
      rw [if_neg hz'] at hQ
      have := ih (j + 1) l (turnI (turnI (turnI x))) dn (some (.int (nI a))) (some (.int (nI b))) (some (.int (nI (c + 1)))) (by omega) hQ
      simp (disch := omega) [w136_0, w136_1, w136_3, w136_4, w136_6, w136_7, w136_11, w136_12, w136_15, w136_16, w136_20, w136_21, w136_24, x136_26, w136_29, w136_31, w136_33, x136_34_70, x136_37_47, x136_40, w136_43, w136_45, x136_47, w136_50, w136_52, w136_54, x136_55_70, x136_58_47, x136_61, w136_64, w136_66, x136_68, w136_71, w136_73, w136_75, x136_76, w136_79, w136_80, w136_81, w136_83, w136_84, w136_86, w136_88, x136_90_70, w136_93, w136_96, w136_97, w136_99, w136_101, x136_103_70, w136_106, w136_109, w136_112, w136_115, x136_116_70, w136_119, w136_122, w136_125, w136_127, rt136, aw_st, ai_cls, ai_len, ai_p, ai_sw, ai_m, ai_c, ai_at, ai_isI, ai_isJ, ai_isA, ai_ld, ai_1i, ai_2i, ai_2l, ai_cn, ai_j, ai_set, ai_set2, ai_nl, ai_rs, ai_sm, Value.category, hk0, hk1, lits, litb, litm, litm2, List.getElem?_cons_zero, List.getElem?_cons_succ, or_n0, bit_r, fi0, fi1, fi2, fi3, nI_toInt, nI_add, pk_mul, nI_leI, nI_ltI, nI_eq, pk_sub, ib_nI, nI_clamp, va_up_self, va_up_ne, va_up_up, va_up_comm, pk_us, pk_un, upd_up, updL_up, pk_uLs, pk_uLn, b01_1, b01_0, b01_1s, b01_0s, or_b, htu, h47, hk, draw_eq, ea, eb, ec, hw, hz, show ¬ T ≤ j by omega]
      exact this
set_option maxHeartbeats 8000000 in
theorem yrs_70 {N T : Nat} {v3 : Int32} (hT : T ≤ 100) (hN : N ≤ 1000) (hP : P ≤ 8) (hP0 : 0 < P) (hk : X 47 7 = nI P) : ∀ (r i : Nat) (l : Nat → Nat → Int32) (x dn : Int32) (z7 za zb zc : Option Value) (Q : List Value → Nat → Nat → ai_M → Prop), i + r = N → aw ET G (d + 4) 136 9 [some (.ref 70), some (.int (nI N)), some (.int (nI T)), some (.int v3), some (.int dn), some (.int x), some (.int (nI i)), z7, za, zb, zc] [] 231 sl (mem (plv X 70 l) Y) Q = Q [.int (drawsR (cv X 47) P T r (l, x, dn)).2.2] 231 sl (mem (plv X 70 (drawsR (cv X 47) P T r (l, x, dn)).1) Y) := by
  intro r
  induction r with
  | zero =>
    intro i l x dn z7 za zb zc Q hi
    have : i = N := by omega
    subst this
    simp (disch := omega) [w136_9, w136_11, w136_12, w136_125, w136_127, rt136, aw_st, ai_cls, ai_len, ai_p, ai_sw, ai_m, ai_c, ai_at, ai_isI, ai_isJ, ai_isA, ai_ld, ai_1i, ai_2i, ai_2l, ai_cn, ai_j, ai_set, ai_set2, ai_nl, ai_rs, ai_sm, Value.category, hk0, hk1, lits, litb, litm, litm2, List.getElem?_cons_zero, List.getElem?_cons_succ, or_n0, bit_r, fi0, fi1, fi2, fi3, nI_toInt, nI_add, pk_mul, nI_leI, nI_ltI, nI_eq, pk_sub, ib_nI, nI_clamp, va_up_self, va_up_ne, va_up_up, va_up_comm, pk_us, pk_un, upd_up, updL_up, pk_uLs, pk_uLn, b01_1, b01_0, b01_1s, b01_0s, or_b, drawsR]
  | succ r ih =>
    intro i l x dn z7 za zb zc Q hi
    refine aw_out (fun Q hQ => ?_) Q
    rw [w136_9]
    simp (disch := omega) [w136_11, w136_12, w136_15, w136_16, aw_st, ai_cls, ai_len, ai_p, ai_sw, ai_m, ai_c, ai_at, ai_isI, ai_isJ, ai_isA, ai_ld, ai_1i, ai_2i, ai_2l, ai_cn, ai_j, ai_set, ai_set2, ai_nl, ai_rs, ai_sm, Value.category, hk0, hk1, lits, litb, litm, litm2, List.getElem?_cons_zero, List.getElem?_cons_succ, or_n0, bit_r, fi0, fi1, fi2, fi3, nI_toInt, nI_add, pk_mul, nI_leI, nI_ltI, nI_eq, pk_sub, ib_nI, nI_clamp, va_up_self, va_up_ne, va_up_up, va_up_comm, pk_us, pk_un, upd_up, updL_up, pk_uLs, pk_uLn, b01_1, b01_0, b01_1s, b01_0s, or_b, show ¬ N ≤ i by omega]
    refine tal_70 (P := P) (v3 := v3) hT hP hP0 hk T 0 l x dn _ _ _ (by omega) (fun za zb zc => ?_)
    have ho : isHT 70 := by simp [isHT]
    have hd : ∀ (l : Nat → Nat → Int32) (Q : List Value → Nat → Nat → ai_M → Prop), aw ET G (d + 3) 86 0 [some (.ref 70), none] [] 231 sl (mem (plv X 70 l) Y) Q = Q [] 231 sl (mem (plv X 70 (dayR (cv X 47) 0 P l)) Y) := fun l Q => by
      rw [dayM (P := P) ho hP (by rw [plv_out (by omega)]; exact hk), cv_plv (by omega), plv_plv, plv_cg (dayR_cg _ _ _ _ (LEQ_plv l))]
    simp (disch := omega) [w136_0, w136_1, w136_3, w136_4, w136_6, w136_7, w136_11, w136_12, w136_15, w136_16, w136_20, w136_21, w136_24, x136_26, w136_29, w136_31, w136_33, x136_34_70, x136_37_47, x136_40, w136_43, w136_45, x136_47, w136_50, w136_52, w136_54, x136_55_70, x136_58_47, x136_61, w136_64, w136_66, x136_68, w136_71, w136_73, w136_75, x136_76, w136_79, w136_80, w136_81, w136_83, w136_84, w136_86, w136_88, x136_90_70, w136_93, w136_96, w136_97, w136_99, w136_101, x136_103_70, w136_106, w136_109, w136_112, w136_115, x136_116_70, w136_119, w136_122, w136_125, w136_127, rt136, aw_st, ai_cls, ai_len, ai_p, ai_sw, ai_m, ai_c, ai_at, ai_isI, ai_isJ, ai_isA, ai_ld, ai_1i, ai_2i, ai_2l, ai_cn, ai_j, ai_set, ai_set2, ai_nl, ai_rs, ai_sm, Value.category, hk0, hk1, lits, litb, litm, litm2, List.getElem?_cons_zero, List.getElem?_cons_succ, or_n0, bit_r, fi0, fi1, fi2, fi3, nI_toInt, nI_add, pk_mul, nI_leI, nI_ltI, nI_eq, pk_sub, ib_nI, nI_clamp, va_up_self, va_up_ne, va_up_up, va_up_comm, pk_us, pk_un, upd_up, updL_up, pk_uLs, pk_uLn, b01_1, b01_0, b01_1s, b01_0s, or_b, hd]
    rw [ih (i + 1) _ _ _ _ _ _ _ _ (by omega)]
    exact hQ
theorem draws_70 {N T : Nat} {x : Int32} (hT : T ≤ 100) (hN : N ≤ 1000) (hP : P ≤ 8) (hP0 : 0 < P) (hk : X 47 7 = nI P) : aw ET G (d + 4) 136 0 [some (.ref 70), some (.int (nI N)), some (.int (nI T)), some (.int x), none, none, none, none, none, none, none] [] 231 sl (mem X Y) Q = Q [.int (drawsR (cv X 47) P T N (lv X 70, x, 0)).2.2] 231 sl (mem (plv X 70 (drawsR (cv X 47) P T N (lv X 70, x, 0)).1) Y) := by
  have := yrs_70 (G := G) (d := d) (sl := sl) (Y := Y) (X := X) (v3 := x) hT hN hP hP0 hk N 0 (lv X 70) x 0 none none none none Q (by omega)
  rw [plv_self] at this
  simp (disch := omega) [w136_0, w136_1, w136_3, w136_4, w136_6, w136_7, aw_st, ai_cls, ai_len, ai_p, ai_sw, ai_m, ai_c, ai_at, ai_isI, ai_isJ, ai_isA, ai_ld, ai_1i, ai_2i, ai_2l, ai_cn, ai_j, ai_set, ai_set2, ai_nl, ai_rs, ai_sm, Value.category, hk0, hk1, lits, litb, litm, litm2, List.getElem?_cons_zero, List.getElem?_cons_succ, or_n0, bit_r, fi0, fi1, fi2, fi3, nI_toInt, nI_add, pk_mul, nI_leI, nI_ltI, nI_eq, pk_sub, ib_nI, nI_clamp, va_up_self, va_up_ne, va_up_up, va_up_comm, pk_us, pk_un, upd_up, updL_up, pk_uLs, pk_uLn, b01_1, b01_0, b01_1s, b01_0s, or_b] at this ⊢
  exact this
set_option maxHeartbeats 4000000 in
theorem tdrawn_wp {old m : Nat} {x y z : Int32} (hG : G.1 = false) (hP : P ≤ 8) (hk : X 47 7 = nI P) (h1 : X 79 1 = nI old) (h2 : X 79 2 = nI m) (hold : old < 8) (hm : m ≤ 8) (hQ1 : okY P (lv X 61) x y = false → Q [.int mi1] 231 sl (mem X Y)) (hQ2 : ∀ N T, x = nI N → y = nI T → 1 ≤ N → N ≤ 60 → 1 ≤ T → T ≤ 9 → okY P (lv X 61) x y = true → Q [.int (drawsR (cv X 47) P T N (lv X 61, z, 0)).2.2] 231 sl (mem (plv (pushX X old m 61) 61 (drawsR (cv X 47) P T N (lv X 61, z, 0)).1) Y)) : aw ET G (d + 5) 135 0 [some (.ref 0), some (.int x), some (.int y), some (.int z)] [] 231 sl (mem X Y) Q := by
  have hc : ∀ (x : Int32) (Q : List Value → Nat → Nat → ai_M → Prop), aw ET G (d + 4) 84 0 [some (.ref 61), some (.int x)] [] 231 sl (mem X Y) Q = Q [.int (b01 (¬ 9999 < lv X 61 10 0 + x))] 231 sl (mem X Y) := fun x Q => canM (Or.inl rfl)
  cases hi : inI (nI 1) (nI 60) x
  · have := hQ1 (by unfold okY; rw [show inI 1 60 x = false from hi]; rfl)
    unfold inI at hi
    rw [decide_eq_false_iff_not] at hi
    rcases lt_or x (nI 1) with ⟨g1, g2⟩ | ⟨g1, g2⟩
    · simp (disch := omega) [w135_0, w135_1, w135_2, w135_5, w135_6, w135_8, w135_11, w135_12, w135_13, w135_16, w135_17, w135_19, w135_22, x135_23_0, x135_26_55, x135_29_47, w135_32, w135_35, x135_36_0, x135_39_55, w135_42, x135_43_61, w135_46, w135_49, w135_50, w135_51, x135_52_0, w135_55, x135_56_0, x135_59_55, x135_62_79, w135_65, x135_66_0, x135_69_55, w135_72, w135_73, w135_74, x135_75_61, w135_78, rt135, aw_st, ai_cls, ai_len, ai_p, ai_sw, ai_m, ai_c, ai_at, ai_isI, ai_isJ, ai_isA, ai_ld, ai_1i, ai_2i, ai_2l, ai_cn, ai_j, ai_set, ai_set2, ai_nl, ai_rs, ai_sm, Value.category, hk0, hk1, lits, litb, litm, litm2, List.getElem?_cons_zero, List.getElem?_cons_succ, or_n0, bit_r, fi0, fi1, fi2, fi3, nI_toInt, nI_add, pk_mul, nI_leI, nI_ltI, nI_eq, pk_sub, ib_nI, nI_clamp, va_up_self, va_up_ne, va_up_up, va_up_comm, pk_us, pk_un, upd_up, updL_up, pk_uLs, pk_uLn, b01_1, b01_0, b01_1s, b01_0s, or_b, g1, g2]; exact this
    · rcases lt_or (nI 60) x with ⟨f1, f2⟩ | ⟨f1, f2⟩
      · simp (disch := omega) [w135_0, w135_1, w135_2, w135_5, w135_6, w135_8, w135_11, w135_12, w135_13, w135_16, w135_17, w135_19, w135_22, x135_23_0, x135_26_55, x135_29_47, w135_32, w135_35, x135_36_0, x135_39_55, w135_42, x135_43_61, w135_46, w135_49, w135_50, w135_51, x135_52_0, w135_55, x135_56_0, x135_59_55, x135_62_79, w135_65, x135_66_0, x135_69_55, w135_72, w135_73, w135_74, x135_75_61, w135_78, rt135, aw_st, ai_cls, ai_len, ai_p, ai_sw, ai_m, ai_c, ai_at, ai_isI, ai_isJ, ai_isA, ai_ld, ai_1i, ai_2i, ai_2l, ai_cn, ai_j, ai_set, ai_set2, ai_nl, ai_rs, ai_sm, Value.category, hk0, hk1, lits, litb, litm, litm2, List.getElem?_cons_zero, List.getElem?_cons_succ, or_n0, bit_r, fi0, fi1, fi2, fi3, nI_toInt, nI_add, pk_mul, nI_leI, nI_ltI, nI_eq, pk_sub, ib_nI, nI_clamp, va_up_self, va_up_ne, va_up_up, va_up_comm, pk_us, pk_un, upd_up, updL_up, pk_uLs, pk_uLn, b01_1, b01_0, b01_1s, b01_0s, or_b, g1, g2, f1, f2]; exact this
      · exact absurd ⟨g2, f2⟩ hi
  · obtain ⟨N, n1, n2, rfl⟩ := inI_nat (by omega) (by omega) hi
    cases hj : inI (nI 1) (nI 9) y
    · have := hQ1 (by unfold okY; rw [show inI 1 9 y = false from hj]; simp)
      unfold inI at hj
      rw [decide_eq_false_iff_not] at hj
      rcases lt_or y (nI 1) with ⟨g1, g2⟩ | ⟨g1, g2⟩
      · simp (disch := omega) [w135_0, w135_1, w135_2, w135_5, w135_6, w135_8, w135_11, w135_12, w135_13, w135_16, w135_17, w135_19, w135_22, x135_23_0, x135_26_55, x135_29_47, w135_32, w135_35, x135_36_0, x135_39_55, w135_42, x135_43_61, w135_46, w135_49, w135_50, w135_51, x135_52_0, w135_55, x135_56_0, x135_59_55, x135_62_79, w135_65, x135_66_0, x135_69_55, w135_72, w135_73, w135_74, x135_75_61, w135_78, rt135, aw_st, ai_cls, ai_len, ai_p, ai_sw, ai_m, ai_c, ai_at, ai_isI, ai_isJ, ai_isA, ai_ld, ai_1i, ai_2i, ai_2l, ai_cn, ai_j, ai_set, ai_set2, ai_nl, ai_rs, ai_sm, Value.category, hk0, hk1, lits, litb, litm, litm2, List.getElem?_cons_zero, List.getElem?_cons_succ, or_n0, bit_r, fi0, fi1, fi2, fi3, nI_toInt, nI_add, pk_mul, nI_leI, nI_ltI, nI_eq, pk_sub, ib_nI, nI_clamp, va_up_self, va_up_ne, va_up_up, va_up_comm, pk_us, pk_un, upd_up, updL_up, pk_uLs, pk_uLn, b01_1, b01_0, b01_1s, b01_0s, or_b, g1, g2, show ¬ N < 1 by omega, show ¬ 60 < N by omega]; exact this
      · rcases lt_or (nI 9) y with ⟨f1, f2⟩ | ⟨f1, f2⟩
        · simp (disch := omega) [w135_0, w135_1, w135_2, w135_5, w135_6, w135_8, w135_11, w135_12, w135_13, w135_16, w135_17, w135_19, w135_22, x135_23_0, x135_26_55, x135_29_47, w135_32, w135_35, x135_36_0, x135_39_55, w135_42, x135_43_61, w135_46, w135_49, w135_50, w135_51, x135_52_0, w135_55, x135_56_0, x135_59_55, x135_62_79, w135_65, x135_66_0, x135_69_55, w135_72, w135_73, w135_74, x135_75_61, w135_78, rt135, aw_st, ai_cls, ai_len, ai_p, ai_sw, ai_m, ai_c, ai_at, ai_isI, ai_isJ, ai_isA, ai_ld, ai_1i, ai_2i, ai_2l, ai_cn, ai_j, ai_set, ai_set2, ai_nl, ai_rs, ai_sm, Value.category, hk0, hk1, lits, litb, litm, litm2, List.getElem?_cons_zero, List.getElem?_cons_succ, or_n0, bit_r, fi0, fi1, fi2, fi3, nI_toInt, nI_add, pk_mul, nI_leI, nI_ltI, nI_eq, pk_sub, ib_nI, nI_clamp, va_up_self, va_up_ne, va_up_up, va_up_comm, pk_us, pk_un, upd_up, updL_up, pk_uLs, pk_uLn, b01_1, b01_0, b01_1s, b01_0s, or_b, g1, g2, f1, f2, show ¬ N < 1 by omega, show ¬ 60 < N by omega]; exact this
        · exact absurd ⟨g2, f2⟩ hj
    · obtain ⟨T, t1, t2, rfl⟩ := inI_nat (by omega) (by omega) hj
      by_cases hp0 : P = 0
      · have := hQ1 (by unfold okY; simp [hp0])
        simp (disch := omega) [w135_0, w135_1, w135_2, w135_5, w135_6, w135_8, w135_11, w135_12, w135_13, w135_16, w135_17, w135_19, w135_22, x135_23_0, x135_26_55, x135_29_47, w135_32, w135_35, x135_36_0, x135_39_55, w135_42, x135_43_61, w135_46, w135_49, w135_50, w135_51, x135_52_0, w135_55, x135_56_0, x135_59_55, x135_62_79, w135_65, x135_66_0, x135_69_55, w135_72, w135_73, w135_74, x135_75_61, w135_78, rt135, aw_st, ai_cls, ai_len, ai_p, ai_sw, ai_m, ai_c, ai_at, ai_isI, ai_isJ, ai_isA, ai_ld, ai_1i, ai_2i, ai_2l, ai_cn, ai_j, ai_set, ai_set2, ai_nl, ai_rs, ai_sm, Value.category, hk0, hk1, lits, litb, litm, litm2, List.getElem?_cons_zero, List.getElem?_cons_succ, or_n0, bit_r, fi0, fi1, fi2, fi3, nI_toInt, nI_add, pk_mul, nI_leI, nI_ltI, nI_eq, pk_sub, ib_nI, nI_clamp, va_up_self, va_up_ne, va_up_up, va_up_comm, pk_us, pk_un, upd_up, updL_up, pk_uLs, pk_uLn, b01_1, b01_0, b01_1s, b01_0s, or_b, hk, hp0, show ¬ N < 1 by omega, show ¬ 60 < N by omega, show ¬ T < 1 by omega, show ¬ 9 < T by omega]; exact this
      · by_cases hz : (9999 : Int32) < lv X 61 10 0 + nI N
        · have := hQ1 (by unfold okY; simp [hz])
          have hz' : nI 9999 < lv X 61 10 0 + nI N := hz
          simp (disch := omega) [w135_0, w135_1, w135_2, w135_5, w135_6, w135_8, w135_11, w135_12, w135_13, w135_16, w135_17, w135_19, w135_22, x135_23_0, x135_26_55, x135_29_47, w135_32, w135_35, x135_36_0, x135_39_55, w135_42, x135_43_61, w135_46, w135_49, w135_50, w135_51, x135_52_0, w135_55, x135_56_0, x135_59_55, x135_62_79, w135_65, x135_66_0, x135_69_55, w135_72, w135_73, w135_74, x135_75_61, w135_78, rt135, aw_st, ai_cls, ai_len, ai_p, ai_sw, ai_m, ai_c, ai_at, ai_isI, ai_isJ, ai_isA, ai_ld, ai_1i, ai_2i, ai_2l, ai_cn, ai_j, ai_set, ai_set2, ai_nl, ai_rs, ai_sm, Value.category, hk0, hk1, lits, litb, litm, litm2, List.getElem?_cons_zero, List.getElem?_cons_succ, or_n0, bit_r, fi0, fi1, fi2, fi3, nI_toInt, nI_add, pk_mul, nI_leI, nI_ltI, nI_eq, pk_sub, ib_nI, nI_clamp, va_up_self, va_up_ne, va_up_up, va_up_comm, pk_us, pk_un, upd_up, updL_up, pk_uLs, pk_uLn, b01_1, b01_0, b01_1s, b01_0s, or_b, hk, hp0, hc, hz', show ¬ N < 1 by omega, show ¬ 60 < N by omega, show ¬ T < 1 by omega, show ¬ 9 < T by omega]; exact this
        · have hok : okY P (lv X 61) (nI N) (nI T) = true := by unfold okY; rw [show inI 1 60 (nI N) = true from hi, show inI 1 9 (nI T) = true from hj]; simp [hz, show 0 < P by omega]
          have hz' : ¬ nI 9999 < lv X 61 10 0 + nI N := hz
          have hh : ∀ (Q : List Value → Nat → Nat → ai_M → Prop), aw ET G (d + 4) 136 0 [some (.ref 61), some (.int (nI N)), some (.int (nI T)), some (.int z), none, none, none, none, none, none, none] [] 231 sl (mem (pushX X old m 61) Y) Q = Q [.int (drawsR (cv X 47) P T N (lv X 61, z, 0)).2.2] 231 sl (mem (plv (pushX X old m 61) 61 (drawsR (cv X 47) P T N (lv X 61, z, 0)).1) Y) := fun Q => by
            rw [draws_61 (P := P) (by omega) (by omega) hP (by omega) (by rw [pushX_at (by omega)]; exact hk), lv_pushX (Or.inl rfl), cv_pushX]
          simp (disch := omega) [w135_0, w135_1, w135_2, w135_5, w135_6, w135_8, w135_11, w135_12, w135_13, w135_16, w135_17, w135_19, w135_22, x135_23_0, x135_26_55, x135_29_47, w135_32, w135_35, x135_36_0, x135_39_55, w135_42, x135_43_61, w135_46, w135_49, w135_50, w135_51, x135_52_0, w135_55, x135_56_0, x135_59_55, x135_62_79, w135_65, x135_66_0, x135_69_55, w135_72, w135_73, w135_74, x135_75_61, w135_78, rt135, aw_st, ai_cls, ai_len, ai_p, ai_sw, ai_m, ai_c, ai_at, ai_isI, ai_isJ, ai_isA, ai_ld, ai_1i, ai_2i, ai_2l, ai_cn, ai_j, ai_set, ai_set2, ai_nl, ai_rs, ai_sm, Value.category, hk0, hk1, lits, litb, litm, litm2, List.getElem?_cons_zero, List.getElem?_cons_succ, or_n0, bit_r, fi0, fi1, fi2, fi3, nI_toInt, nI_add, pk_mul, nI_leI, nI_ltI, nI_eq, pk_sub, ib_nI, nI_clamp, va_up_self, va_up_ne, va_up_up, va_up_comm, pk_us, pk_un, upd_up, updL_up, pk_uLs, pk_uLn, b01_1, b01_0, b01_1s, b01_0s, or_b, hk, hp0, hc, hz', push_eq' hG (Or.inl rfl) h1 h2 hold hm, hh, show ¬ N < 1 by omega, show ¬ 60 < N by omega, show ¬ T < 1 by omega, show ¬ 9 < T by omega]
          exact hQ2 N T rfl rfl n1 n2 t1 t2 hok
end DRW
