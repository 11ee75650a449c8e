/-! A SENTENCE's text: the class, ONE, ALL, COND -/
section SNE
variable {G : ai_G} {d sl : Nat} {c : TC} {P S : Nat} {nm : Nat → List Nat}
abbrev snOk (Q : List Value → Nat → Nat → ai_M → Prop) (sl : Nat) (c : TC) (P S o : Nat) (L : List SC) (X : mX) (Y : mY) (R : Nat → Nat → List SC → Prop) : Prop := ∀ i' o' L', R i' o' L' → GD P S o L o' L' → i' ≤ c.2.1 → ∀ X' Y', FN X Y X' Y' → RDC c i' (X' 2) (Y' 2) (nI 0) → SS X' L' o' → Q [.int (nI 1)] 231 sl (mem X' Y')
/-- one of the three methods at depth D, with d calls to spare -/
def SNC (G : ai_G) (sl d : Nat) (c : TC) (nm : Nat → List Nat) (P S mi : Nat) (tl : ai_L) (D : Nat) (R : Nat → Nat → List SC → Nat → Nat → List SC → Prop) (E : Nat → Nat → List SC → Nat × Nat → Prop) : Prop := ∀ (X : mX) (Y : mY) (i o : Nat) (L : List SC) (Q : List Value → Nat → Nat → ai_M → Prop), TN X Y nm P S → RDC c i (X 2) (Y 2) (nI 0) → OKc c X → i ≤ c.2.1 → SS X L o → o ≤ 20 → L.length ≤ 2 * o → (∀ e j, E i o L (e, j) → snBad Q sl c X Y e j) → snOk Q sl c P S o L X Y (R i o L) → aw ET G d mi 0 ([some (.ref 14), some (.ref 2), some (.ref 47), some (.int (nI D))] ++ tl) [] 231 sl (mem X Y) Q
def ALL' (c : TC) (nm : Nat → List Nat) (P S D i o : Nat) (L : List SC) (i' o' : Nat) (L' : List SC) : Prop := allR c nm P S D i o L i' o' L' ∧ ¬ cY c i' = 12
def CON' (c : TC) (nm : Nat → List Nat) (P S D i o : Nat) (L : List SC) (i' o' : Nat) (L' : List SC) : Prop := conR c nm P S D i o L i' o' L' ∧ ¬ cY c i' = 12 ∧ ¬ cY c i' = 11
theorem rdc_key {X : mX} {Y : mY} {i : Nat} {flt : Int32} (h : RDC c i (X 2) (Y 2) flt) : X 2 8 = yI (cY c i) := h.2.2.2.2.2.2.1
theorem rdc_kind {X : mX} {Y : mY} {i : Nat} {flt : Int32} (h : RDC c i (X 2) (Y 2) flt) : X 2 4 = nI (cK c i) := h.2.2.2.2.1
theorem cY_le {i : Nat} : cY c i ≤ 21 := tY_le
set_option maxHeartbeats 8000000 in
theorem all_loop {D i0 o0 : Nat} {L0 : List SC} {Q : List Value → Nat → Nat → ai_M → Prop} {X0 : mX} {Y0 : mY} (one : SNC G sl (d + 3) c nm P S 158 [none, none] D (oneR c nm P S D) (oneE c nm P S D)) (hQ1 : ∀ e j, allE c nm P S D i0 o0 L0 (e, j) → snBad Q sl c X0 Y0 e j) (hQ2 : snOk Q sl c P S o0 L0 X0 Y0 (ALL' c nm P S D i0 o0 L0)) : ∀ (r m i o : Nat) (L : List SC) (X : mX) (Y : mY), m + r = 21 → TN X Y nm P S → RDC c i (X 2) (Y 2) (nI 0) → OKc c X → i ≤ c.2.1 → SS X L o → m + 1 ≤ o → L0.length ≤ 2 * o0 → allR c nm P S D i0 o0 L0 i o L → GD P S o0 L0 o L → FN X0 Y0 X Y → aw ET G (d + 4) 157 15 [some (.ref 14), some (.ref 2), some (.ref 47), some (.int (nI D)), some (.int (nI m))] [] 231 sl (mem X Y) Q := by
  intro r
  induction r with
  | zero =>
    intro m i o L X Y hm _ _ _ _ _ ho _ _ hg _
    have := hg.2.1
    omega
  | succ r ih =>
    intro m i o L X Y hm ht h ok hi hs ho hL0 ha hg hf
    have hk := rdc_key h
    have hy := yI_nI (j := cY c i) (c := 12) (by omega)
    have hlen := GD_len hg
    have ho20 := hg.2.1
    rw [w157_15]
    by_cases c12 : cY c i = 12
    · have k12 : yI (cY c i) = nI 12 := by rw [hy]; exact c12
      simp (disch := omega) [w157_17, w157_19, w157_22, x157_23_2, w157_26, w157_28, w157_31, rt157, rt157, aw_st, ai_cls, ai_len, ai_p, ai_sw, ai_m, ai_c, ai_at, ai_isI, ai_isJ, ai_isA, ai_ld, ai_1i, ai_2i, ai_2l, ai_cn, ai_j, ai_set, ai_set2, ai_nl, ai_rs, ai_sm, Value.category, hk0, hk1, lits, litb, litm, litm2, List.getElem?_cons_zero, List.getElem?_cons_succ, or_n0, bit_r, fi0, fi1, fi2, fi3, nI_toInt, nI_add, pk_mul, nI_leI, nI_ltI, nI_eq, pk_sub, ib_nI, nI_clamp, va_up_self, va_up_ne, va_up_up, va_up_comm, pk_us, pk_un, upd_up, updL_up, pk_uLs, pk_uLn, b01_1, b01_0, b01_1s, b01_0s, or_b, hk, k12, show ¬ 20 < m by omega]
      rw [x157_32_2, if_pos (by decide)]
      refine Hstep h ok hi (fun X1 Y1 f1 r1 => ?_)
      simp (disch := omega) [w157_35, w157_36, w157_37, w157_38, rt157, rt157, aw_st, ai_cls, ai_len, ai_p, ai_sw, ai_m, ai_c, ai_at, ai_isI, ai_isJ, ai_isA, ai_ld, ai_1i, ai_2i, ai_2l, ai_cn, ai_j, ai_set, ai_set2, ai_nl, ai_rs, ai_sm, Value.category, hk0, hk1, lits, litb, litm, litm2, List.getElem?_cons_zero, List.getElem?_cons_succ, or_n0, bit_r, fi0, fi1, fi2, fi3, nI_toInt, nI_add, pk_mul, nI_leI, nI_ltI, nI_eq, pk_sub, ib_nI, nI_clamp, va_up_self, va_up_ne, va_up_up, va_up_comm, pk_us, pk_un, upd_up, updL_up, pk_uLs, pk_uLn, b01_1, b01_0, b01_1s, b01_0s, or_b]
      rw [x157_39_14, if_pos (by decide)]
      have l2 : L.length ≤ 2 * o := by have := hg.1; omega
      refine one X1 Y1 (cA c i) o L _ (TN_fn ht f1.fn) r1 (OKc_h ok f1) (cA_le hi) (SS_h hs f1) ho20 l2 (fun e j he X2 Y2 f2 r2 => ?_) (fun i2 o2 L2 hr2 g2 hi2 X2 Y2 f2 r2 s2 => ?_)
      · simp (disch := omega) [w157_42, w157_45, w157_46, rt157, rt157, aw_st, ai_cls, ai_len, ai_p, ai_sw, ai_m, ai_c, ai_at, ai_isI, ai_isJ, ai_isA, ai_ld, ai_1i, ai_2i, ai_2l, ai_cn, ai_j, ai_set, ai_set2, ai_nl, ai_rs, ai_sm, Value.category, hk0, hk1, lits, litb, litm, litm2, List.getElem?_cons_zero, List.getElem?_cons_succ, or_n0, bit_r, fi0, fi1, fi2, fi3, nI_toInt, nI_add, pk_mul, nI_leI, nI_ltI, nI_eq, pk_sub, ib_nI, nI_clamp, va_up_self, va_up_ne, va_up_up, va_up_comm, pk_us, pk_un, upd_up, updL_up, pk_uLs, pk_uLn, b01_1, b01_0, b01_1s, b01_0s, or_b]
        exact hQ1 e j (all_nextE ha c12 he) X2 Y2 (hf.tr (f1.fn.tr f2)) r2
      · have hlen2 := GD_len g2
        have o2le := g2.2.1
        have hb := fun (Q : List Value → Nat → Nat → ai_M → Prop) => addStep_eq (G := G) (d := d + 3) (sl := sl) (Q := Q) (X := X2) (Y := Y2) (L := L2) (z := opc 12) s2.2.1 (by have := g2.1; have := hg.1; omega)
        have hb' : ∀ (Q : List Value → Nat → Nat → ai_M → Prop), aw ET G (d + 3) 161 0 [some (.ref 14), some (.int (nI 12)), some (.int (nI 0)), some (.int (nI 0))] [] 231 sl (mem X2 Y2) Q = Q [.int (nI 1)] 231 sl (mem (adX X2 L2.length (opc 12)) Y2) := hb
        simp (disch := omega) [w157_42, w157_47, w157_48, w157_50, w157_51, x157_52_14, w157_55, w157_56, w157_59, rt157, rt157, aw_st, ai_cls, ai_len, ai_p, ai_sw, ai_m, ai_c, ai_at, ai_isI, ai_isJ, ai_isA, ai_ld, ai_1i, ai_2i, ai_2l, ai_cn, ai_j, ai_set, ai_set2, ai_nl, ai_rs, ai_sm, Value.category, hk0, hk1, lits, litb, litm, litm2, List.getElem?_cons_zero, List.getElem?_cons_succ, or_n0, bit_r, fi0, fi1, fi2, fi3, nI_toInt, nI_add, pk_mul, nI_leI, nI_ltI, nI_eq, pk_sub, ib_nI, nI_clamp, va_up_self, va_up_ne, va_up_up, va_up_comm, pk_us, pk_un, upd_up, updL_up, pk_uLs, pk_uLn, b01_1, b01_0, b01_1s, b01_0s, or_b, hb']
        exact ih (m + 1) i2 o2 (L2 ++ [opc 12]) _ Y2 (by omega) (TN_fn (TN_fn (TN_fn ht f1.fn) f2) FN_ad) (by rw [ad_2]; exact r2) (OKc_fn (OKc_fn (OKc_h ok f1) f2) (FN_ad (Y := Y2))) hi2 (SS_ad s2) (by have := g2.1; omega) hL0 (all_next ha c12 hr2) (GD_op (Or.inl rfl) hg g2) (hf.tr ((f1.fn.tr f2).tr FN_ad))
    · have k12 : ¬ yI (cY c i) = nI 12 := by rw [hy]; exact c12
      simp (disch := omega) [w157_17, w157_19, w157_22, x157_23_2, w157_26, w157_28, w157_62, w157_63, rt157, rt157, aw_st, ai_cls, ai_len, ai_p, ai_sw, ai_m, ai_c, ai_at, ai_isI, ai_isJ, ai_isA, ai_ld, ai_1i, ai_2i, ai_2l, ai_cn, ai_j, ai_set, ai_set2, ai_nl, ai_rs, ai_sm, Value.category, hk0, hk1, lits, litb, litm, litm2, List.getElem?_cons_zero, List.getElem?_cons_succ, or_n0, bit_r, fi0, fi1, fi2, fi3, nI_toInt, nI_add, pk_mul, nI_leI, nI_ltI, nI_eq, pk_sub, ib_nI, nI_clamp, va_up_self, va_up_ne, va_up_up, va_up_comm, pk_us, pk_un, upd_up, updL_up, pk_uLs, pk_uLn, b01_1, b01_0, b01_1s, b01_0s, or_b, hk, k12, show ¬ 20 < m by omega]
      exact hQ2 i o L ⟨ha, c12⟩ hg hi X Y hf h hs
theorem all_wp {D : Nat} (one : SNC G sl (d + 3) c nm P S 158 [none, none] D (oneR c nm P S D) (oneE c nm P S D)) : SNC G sl (d + 4) c nm P S 157 [none] D (ALL' c nm P S D) (allE c nm P S D) := by
  intro X Y i o L Q ht h ok hi hs ho hl hQ1 hQ2
  show aw ET G (d + 4) 157 0 [some (.ref 14), some (.ref 2), some (.ref 47), some (.int (nI D)), none] [] 231 sl (mem X Y) Q
  simp (disch := omega) [w157_0, w157_1, w157_2, w157_3, rt157, rt157, aw_st, ai_cls, ai_len, ai_p, ai_sw, ai_m, ai_c, ai_at, ai_isI, ai_isJ, ai_isA, ai_ld, ai_1i, ai_2i, ai_2l, ai_cn, ai_j, ai_set, ai_set2, ai_nl, ai_rs, ai_sm, Value.category, hk0, hk1, lits, litb, litm, litm2, List.getElem?_cons_zero, List.getElem?_cons_succ, or_n0, bit_r, fi0, fi1, fi2, fi3, nI_toInt, nI_add, pk_mul, nI_leI, nI_ltI, nI_eq, pk_sub, ib_nI, nI_clamp, va_up_self, va_up_ne, va_up_up, va_up_comm, pk_us, pk_un, upd_up, updL_up, pk_uLs, pk_uLn, b01_1, b01_0, b01_1s, b01_0s, or_b]
  rw [x157_4_14, if_pos (by decide)]
  refine one X Y i o L _ ht h ok hi hs ho hl (fun e j he X2 Y2 f2 r2 => ?_) (fun i2 o2 L2 hr2 g2 hi2 X2 Y2 f2 r2 s2 => ?_)
  · simp (disch := omega) [w157_7, w157_10, w157_11, rt157, rt157, aw_st, ai_cls, ai_len, ai_p, ai_sw, ai_m, ai_c, ai_at, ai_isI, ai_isJ, ai_isA, ai_ld, ai_1i, ai_2i, ai_2l, ai_cn, ai_j, ai_set, ai_set2, ai_nl, ai_rs, ai_sm, Value.category, hk0, hk1, lits, litb, litm, litm2, List.getElem?_cons_zero, List.getElem?_cons_succ, or_n0, bit_r, fi0, fi1, fi2, fi3, nI_toInt, nI_add, pk_mul, nI_leI, nI_ltI, nI_eq, pk_sub, ib_nI, nI_clamp, va_up_self, va_up_ne, va_up_up, va_up_comm, pk_us, pk_un, upd_up, updL_up, pk_uLs, pk_uLn, b01_1, b01_0, b01_1s, b01_0s, or_b]
    exact hQ1 e j (all_oneE he) X2 Y2 f2 r2
  · simp (disch := omega) [w157_7, w157_12, w157_13, rt157, rt157, aw_st, ai_cls, ai_len, ai_p, ai_sw, ai_m, ai_c, ai_at, ai_isI, ai_isJ, ai_isA, ai_ld, ai_1i, ai_2i, ai_2l, ai_cn, ai_j, ai_set, ai_set2, ai_nl, ai_rs, ai_sm, Value.category, hk0, hk1, lits, litb, litm, litm2, List.getElem?_cons_zero, List.getElem?_cons_succ, or_n0, bit_r, fi0, fi1, fi2, fi3, nI_toInt, nI_add, pk_mul, nI_leI, nI_ltI, nI_eq, pk_sub, ib_nI, nI_clamp, va_up_self, va_up_ne, va_up_up, va_up_comm, pk_us, pk_un, upd_up, updL_up, pk_uLs, pk_uLn, b01_1, b01_0, b01_1s, b01_0s, or_b]
    exact all_loop one hQ1 hQ2 21 0 i2 o2 L2 X2 Y2 (by omega) (TN_fn ht f2) r2 (OKc_fn ok f2) hi2 s2 (by have := g2.1; omega) hl (all_one hr2) g2 f2
set_option maxHeartbeats 8000000 in
theorem con_loop {D i0 o0 : Nat} {L0 : List SC} {Q : List Value → Nat → Nat → ai_M → Prop} {X0 : mX} {Y0 : mY} (all : SNC G sl (d + 4) c nm P S 157 [none] D (ALL' c nm P S D) (allE c nm P S D)) (hQ1 : ∀ e j, conE c nm P S D i0 o0 L0 (e, j) → snBad Q sl c X0 Y0 e j) (hQ2 : snOk Q sl c P S o0 L0 X0 Y0 (CON' c nm P S D i0 o0 L0)) : ∀ (r m i o : Nat) (L : List SC) (X : mX) (Y : mY), m + r = 21 → TN X Y nm P S → RDC c i (X 2) (Y 2) (nI 0) → OKc c X → i ≤ c.2.1 → SS X L o → m + 1 ≤ o → L0.length ≤ 2 * o0 → conR c nm P S D i0 o0 L0 i o L → ¬ cY c i = 12 → GD P S o0 L0 o L → FN X0 Y0 X Y → aw ET G (d + 5) 156 15 [some (.ref 14), some (.ref 2), some (.ref 47), some (.int (nI D)), some (.int (nI m))] [] 231 sl (mem X Y) Q := by
  intro r
  induction r with
  | zero =>
    intro m i o L X Y hm _ _ _ _ _ ho _ _ _ hg _
    have := hg.2.1
    omega
  | succ r ih =>
    intro m i o L X Y hm ht h ok hi hs ho hL0 ha h12 hg hf
    have hk := rdc_key h
    have hy := yI_nI (j := cY c i) (c := 11) (by omega)
    have hlen := GD_len hg
    have ho20 := hg.2.1
    rw [w156_15]
    by_cases c11 : cY c i = 11
    · have k11 : yI (cY c i) = nI 11 := by rw [hy]; exact c11
      simp (disch := omega) [w156_17, w156_19, w156_22, x156_23_2, w156_26, w156_28, w156_31, rt156, rt156, aw_st, ai_cls, ai_len, ai_p, ai_sw, ai_m, ai_c, ai_at, ai_isI, ai_isJ, ai_isA, ai_ld, ai_1i, ai_2i, ai_2l, ai_cn, ai_j, ai_set, ai_set2, ai_nl, ai_rs, ai_sm, Value.category, hk0, hk1, lits, litb, litm, litm2, List.getElem?_cons_zero, List.getElem?_cons_succ, or_n0, bit_r, fi0, fi1, fi2, fi3, nI_toInt, nI_add, pk_mul, nI_leI, nI_ltI, nI_eq, pk_sub, ib_nI, nI_clamp, va_up_self, va_up_ne, va_up_up, va_up_comm, pk_us, pk_un, upd_up, updL_up, pk_uLs, pk_uLn, b01_1, b01_0, b01_1s, b01_0s, or_b, hk, k11, show ¬ 20 < m by omega]
      rw [x156_32_2, if_pos (by decide)]
      refine Hstep h ok hi (fun X1 Y1 f1 r1 => ?_)
      simp (disch := omega) [w156_35, w156_36, w156_37, w156_38, rt156, rt156, aw_st, ai_cls, ai_len, ai_p, ai_sw, ai_m, ai_c, ai_at, ai_isI, ai_isJ, ai_isA, ai_ld, ai_1i, ai_2i, ai_2l, ai_cn, ai_j, ai_set, ai_set2, ai_nl, ai_rs, ai_sm, Value.category, hk0, hk1, lits, litb, litm, litm2, List.getElem?_cons_zero, List.getElem?_cons_succ, or_n0, bit_r, fi0, fi1, fi2, fi3, nI_toInt, nI_add, pk_mul, nI_leI, nI_ltI, nI_eq, pk_sub, ib_nI, nI_clamp, va_up_self, va_up_ne, va_up_up, va_up_comm, pk_us, pk_un, upd_up, updL_up, pk_uLs, pk_uLn, b01_1, b01_0, b01_1s, b01_0s, or_b]
      rw [x156_39_14, if_pos (by decide)]
      have l2 : L.length ≤ 2 * o := by have := hg.1; omega
      refine all X1 Y1 (cA c i) o L _ (TN_fn ht f1.fn) r1 (OKc_h ok f1) (cA_le hi) (SS_h hs f1) ho20 l2 (fun e j he X2 Y2 f2 r2 => ?_) (fun i2 o2 L2 hr2 g2 hi2 X2 Y2 f2 r2 s2 => ?_)
      · simp (disch := omega) [w156_42, w156_45, w156_46, rt156, rt156, aw_st, ai_cls, ai_len, ai_p, ai_sw, ai_m, ai_c, ai_at, ai_isI, ai_isJ, ai_isA, ai_ld, ai_1i, ai_2i, ai_2l, ai_cn, ai_j, ai_set, ai_set2, ai_nl, ai_rs, ai_sm, Value.category, hk0, hk1, lits, litb, litm, litm2, List.getElem?_cons_zero, List.getElem?_cons_succ, or_n0, bit_r, fi0, fi1, fi2, fi3, nI_toInt, nI_add, pk_mul, nI_leI, nI_ltI, nI_eq, pk_sub, ib_nI, nI_clamp, va_up_self, va_up_ne, va_up_up, va_up_comm, pk_us, pk_un, upd_up, updL_up, pk_uLs, pk_uLn, b01_1, b01_0, b01_1s, b01_0s, or_b]
        exact hQ1 e j (con_nextE ha c11 he) X2 Y2 (hf.tr (f1.fn.tr f2)) r2
      · have hlen2 := GD_len g2
        have o2le := g2.2.1
        have hb := fun (Q : List Value → Nat → Nat → ai_M → Prop) => addStep_eq (G := G) (d := d + 4) (sl := sl) (Q := Q) (X := X2) (Y := Y2) (L := L2) (z := opc 11) s2.2.1 (by have := g2.1; have := hg.1; omega)
        have hb' : ∀ (Q : List Value → Nat → Nat → ai_M → Prop), aw ET G (d + 4) 161 0 [some (.ref 14), some (.int (nI 11)), some (.int (nI 0)), some (.int (nI 0))] [] 231 sl (mem X2 Y2) Q = Q [.int (nI 1)] 231 sl (mem (adX X2 L2.length (opc 11)) Y2) := hb
        simp (disch := omega) [w156_42, w156_47, w156_48, w156_50, w156_51, x156_52_14, w156_55, w156_56, w156_59, rt156, rt156, aw_st, ai_cls, ai_len, ai_p, ai_sw, ai_m, ai_c, ai_at, ai_isI, ai_isJ, ai_isA, ai_ld, ai_1i, ai_2i, ai_2l, ai_cn, ai_j, ai_set, ai_set2, ai_nl, ai_rs, ai_sm, Value.category, hk0, hk1, lits, litb, litm, litm2, List.getElem?_cons_zero, List.getElem?_cons_succ, or_n0, bit_r, fi0, fi1, fi2, fi3, nI_toInt, nI_add, pk_mul, nI_leI, nI_ltI, nI_eq, pk_sub, ib_nI, nI_clamp, va_up_self, va_up_ne, va_up_up, va_up_comm, pk_us, pk_un, upd_up, updL_up, pk_uLs, pk_uLn, b01_1, b01_0, b01_1s, b01_0s, or_b, hb']
        exact ih (m + 1) i2 o2 (L2 ++ [opc 11]) _ Y2 (by omega) (TN_fn (TN_fn (TN_fn ht f1.fn) f2) FN_ad) (by rw [ad_2]; exact r2) (OKc_fn (OKc_fn (OKc_h ok f1) f2) (FN_ad (Y := Y2))) hi2 (SS_ad s2) (by have := g2.1; omega) hL0 (con_next ha c11 hr2.1) hr2.2 (GD_op (Or.inr rfl) hg g2) (hf.tr ((f1.fn.tr f2).tr FN_ad))
    · have k11 : ¬ yI (cY c i) = nI 11 := by rw [hy]; exact c11
      simp (disch := omega) [w156_17, w156_19, w156_22, x156_23_2, w156_26, w156_28, w156_62, w156_63, rt156, rt156, aw_st, ai_cls, ai_len, ai_p, ai_sw, ai_m, ai_c, ai_at, ai_isI, ai_isJ, ai_isA, ai_ld, ai_1i, ai_2i, ai_2l, ai_cn, ai_j, ai_set, ai_set2, ai_nl, ai_rs, ai_sm, Value.category, hk0, hk1, lits, litb, litm, litm2, List.getElem?_cons_zero, List.getElem?_cons_succ, or_n0, bit_r, fi0, fi1, fi2, fi3, nI_toInt, nI_add, pk_mul, nI_leI, nI_ltI, nI_eq, pk_sub, ib_nI, nI_clamp, va_up_self, va_up_ne, va_up_up, va_up_comm, pk_us, pk_un, upd_up, updL_up, pk_uLs, pk_uLn, b01_1, b01_0, b01_1s, b01_0s, or_b, hk, k11, show ¬ 20 < m by omega]
      exact hQ2 i o L ⟨ha, h12, c11⟩ hg hi X Y hf h hs
theorem con_wp {D : Nat} (all : SNC G sl (d + 4) c nm P S 157 [none] D (ALL' c nm P S D) (allE c nm P S D)) : SNC G sl (d + 5) c nm P S 156 [none] D (CON' c nm P S D) (conE c nm P S D) := by
  intro X Y i o L Q ht h ok hi hs ho hl hQ1 hQ2
  show aw ET G (d + 5) 156 0 [some (.ref 14), some (.ref 2), some (.ref 47), some (.int (nI D)), none] [] 231 sl (mem X Y) Q
  simp (disch := omega) [w156_0, w156_1, w156_2, w156_3, rt156, rt156, aw_st, ai_cls, ai_len, ai_p, ai_sw, ai_m, ai_c, ai_at, ai_isI, ai_isJ, ai_isA, ai_ld, ai_1i, ai_2i, ai_2l, ai_cn, ai_j, ai_set, ai_set2, ai_nl, ai_rs, ai_sm, Value.category, hk0, hk1, lits, litb, litm, litm2, List.getElem?_cons_zero, List.getElem?_cons_succ, or_n0, bit_r, fi0, fi1, fi2, fi3, nI_toInt, nI_add, pk_mul, nI_leI, nI_ltI, nI_eq, pk_sub, ib_nI, nI_clamp, va_up_self, va_up_ne, va_up_up, va_up_comm, pk_us, pk_un, upd_up, updL_up, pk_uLs, pk_uLn, b01_1, b01_0, b01_1s, b01_0s, or_b]
  rw [x156_4_14, if_pos (by decide)]
  refine all X Y i o L _ ht h ok hi hs ho hl (fun e j he X2 Y2 f2 r2 => ?_) (fun i2 o2 L2 hr2 g2 hi2 X2 Y2 f2 r2 s2 => ?_)
  · simp (disch := omega) [w156_7, w156_10, w156_11, rt156, rt156, aw_st, ai_cls, ai_len, ai_p, ai_sw, ai_m, ai_c, ai_at, ai_isI, ai_isJ, ai_isA, ai_ld, ai_1i, ai_2i, ai_2l, ai_cn, ai_j, ai_set, ai_set2, ai_nl, ai_rs, ai_sm, Value.category, hk0, hk1, lits, litb, litm, litm2, List.getElem?_cons_zero, List.getElem?_cons_succ, or_n0, bit_r, fi0, fi1, fi2, fi3, nI_toInt, nI_add, pk_mul, nI_leI, nI_ltI, nI_eq, pk_sub, ib_nI, nI_clamp, va_up_self, va_up_ne, va_up_up, va_up_comm, pk_us, pk_un, upd_up, updL_up, pk_uLs, pk_uLn, b01_1, b01_0, b01_1s, b01_0s, or_b]
    exact hQ1 e j (con_allE he) X2 Y2 f2 r2
  · simp (disch := omega) [w156_7, w156_12, w156_13, rt156, rt156, aw_st, ai_cls, ai_len, ai_p, ai_sw, ai_m, ai_c, ai_at, ai_isI, ai_isJ, ai_isA, ai_ld, ai_1i, ai_2i, ai_2l, ai_cn, ai_j, ai_set, ai_set2, ai_nl, ai_rs, ai_sm, Value.category, hk0, hk1, lits, litb, litm, litm2, List.getElem?_cons_zero, List.getElem?_cons_succ, or_n0, bit_r, fi0, fi1, fi2, fi3, nI_toInt, nI_add, pk_mul, nI_leI, nI_ltI, nI_eq, pk_sub, ib_nI, nI_clamp, va_up_self, va_up_ne, va_up_up, va_up_comm, pk_us, pk_un, upd_up, updL_up, pk_uLs, pk_uLn, b01_1, b01_0, b01_1s, b01_0s, or_b]
    exact con_loop all hQ1 hQ2 21 0 i2 o2 L2 X2 Y2 (by omega) (TN_fn ht f2) r2 (OKc_fn ok f2) hi2 s2 (by have := g2.1; omega) hl (con_all hr2.1) hr2.2 g2 f2
end SNE
