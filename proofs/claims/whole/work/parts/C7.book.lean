/-! A BOOK's text: the class, II -/
section BKB
variable {G : ai_G} {d sl : Nat} {Q : List Value → Nat → Nat → ai_M → Prop} {Y : mY} {X : mX} {c : TC} {i P S m : Nat} {flt : Int32} {nm : Nat → List Nat} {B : BL}
/-- the town's names, the class -/
def TN (X : mX) (Y : mY) (nm : Nat → List Nat) (P S : Nat) : Prop := P ≤ 8 ∧ S ≤ 8 ∧ X 47 7 = nI P ∧ X 47 8 = nI S ∧ (∀ q, q < P → Y 48 q = lN (v5 (nm q)) ∧ WD (nm q)) ∧ (∀ q, q < S → Y 51 q = lN (v5 (nmS nm q)) ∧ WD (nmS nm q))
theorem TN_fb {X' : mX} {Y' : mY} (h : TN X Y nm P S) (f : FB X Y X' Y') : TN X' Y' nm P S := by
  obtain ⟨a, b, c, e, g, k⟩ := h
  exact ⟨a, b, by rw [f.1 47 (by omega) (by omega)]; exact c, by rw [f.1 47 (by omega) (by omega)]; exact e, by rw [f.2.2 48 (by omega)]; exact g, by rw [f.2.2 51 (by omega)]; exact k⟩
abbrev bkBad (Q : List Value → Nat → Nat → ai_M → Prop) (sl : Nat) (c : TC) (X : mX) (Y : mY) {α : Type} (s : (Nat × Nat) ⊕ α) : Prop := ∀ e j, s = .inl (e, j) → ∀ X' Y', FB X Y X' Y' → RDC c j (X' 2) (Y' 2) (nI e) → Q [.int (nI 0)] 231 sl (mem X' Y')
abbrev bkOk (Q : List Value → Nat → Nat → ai_M → Prop) (sl : Nat) (c : TC) (X : mX) (Y : mY) (P S m : Nat) (flt : Int32) (s : (Nat × Nat) ⊕ (Nat × BLn)) : Prop := ∀ i2 L, s = .inr (i2, L) → i2 ≤ c.2.1 → okL P S L → ∀ X1 Y1, HC X Y X1 Y1 → RDC c i2 (X1 2) (Y1 2) flt → Q [.int (nI 1)] 231 sl (mem (alX X1 m (nI (kAct L.1)) (nI L.2.1) (nI L.2.2.1) (nI L.2.2.2)) Y1)
set_option maxHeartbeats 8000000 in
theorem rTalk_wp {a : Nat} (ht : TN X Y nm P S) (h : RDC c i (X 2) (Y 2) flt) (ok : OKc c X) (hi : i ≤ c.2.1) (ha : a < P) (hm : X 30 4 = nI m) (hm2 : m < 30) (hQ1 : bkBad Q sl c X Y (sTalk c nm P S i a)) (hQ2 : bkOk Q sl c X Y P S m flt (sTalk c nm P S i a)) : aw ET G (d + 4) 147 0 [some (.ref 30), some (.ref 2), some (.ref 47), some (.int (nI a)), none, none, none] [] 231 sl (mem X Y) Q := by
  have h8 : X 2 8 = yI (cY c i) := h.2.2.2.2.2.2.1
  obtain ⟨hP, hS, k7, k8, n1, n2⟩ := ht
  by_cases q7 : cY c i = 7 ∨ cY c i = 8
  · have hgo : aw ET G (d + 4) 147 26 [some (.ref 30), some (.ref 2), some (.ref 47), some (.int (nI a)), some (.int (nI (cY c i))), none, none] [] 231 sl (mem X Y) Q := by
      simp (disch := omega) [w147_26, x147_27_2, rt147, aw_st, ai_cls, ai_len, ai_p, ai_sw, ai_m, ai_c, ai_at, ai_isI, ai_isJ, ai_isA, ai_ld, ai_1i, ai_2i, ai_2l, ai_cn, ai_j, ai_set, ai_set2, ai_nl, ai_rs, ai_sm, Value.category, hk0, hk1, lits, litb, litm, litm2, List.getElem?_cons_zero, List.getElem?_cons_succ, or_n0, bit_r, fi0, fi1, fi2, fi3, nI_toInt, nI_add, pk_mul, nI_leI, nI_ltI, nI_eq, pk_sub, ib_nI, nI_clamp, va_up_self, va_up_ne, va_up_up, va_up_comm, pk_us, pk_un, upd_up, updL_up, pk_uLs, pk_uLn, b01_1, b01_0, b01_1s, b01_0s, or_b]
      refine Hstep h ok hi (fun X1 Y1 y1 r1 => ?_)
      simp (disch := omega) [w147_30, w147_31, x147_32_2, rt147, aw_st, ai_cls, ai_len, ai_p, ai_sw, ai_m, ai_c, ai_at, ai_isI, ai_isJ, ai_isA, ai_ld, ai_1i, ai_2i, ai_2l, ai_cn, ai_j, ai_set, ai_set2, ai_nl, ai_rs, ai_sm, Value.category, hk0, hk1, lits, litb, litm, litm2, List.getElem?_cons_zero, List.getElem?_cons_succ, or_n0, bit_r, fi0, fi1, fi2, fi3, nI_toInt, nI_add, pk_mul, nI_leI, nI_ltI, nI_eq, pk_sub, ib_nI, nI_clamp, va_up_self, va_up_ne, va_up_up, va_up_comm, pk_us, pk_un, upd_up, updL_up, pk_uLs, pk_uLn, b01_1, b01_0, b01_1s, b01_0s, or_b]
      refine Hperson (nm := nm) r1 (OKc_h ok y1) (cA_le hi) hP (by rw [y1.1 47 (by omega)]; exact k7) (by rw [y1.2 48 (by omega)]; exact n1) (fun e j es X2 Y2 y2 r2 => ?_) (fun b es hb X2 Y2 y2 r2 => ?_)
      · have := hQ1 e j (by unfold sTalk; rw [if_pos q7]; simp only [es]) X2 Y2 (y1.tr y2).fb r2
        simp (disch := omega) [w147_35, w147_37, w147_39, w147_40, w147_43, w147_44, rt147, aw_st, ai_cls, ai_len, ai_p, ai_sw, ai_m, ai_c, ai_at, ai_isI, ai_isJ, ai_isA, ai_ld, ai_1i, ai_2i, ai_2l, ai_cn, ai_j, ai_set, ai_set2, ai_nl, ai_rs, ai_sm, Value.category, hk0, hk1, lits, litb, litm, litm2, List.getElem?_cons_zero, List.getElem?_cons_succ, or_n0, bit_r, fi0, fi1, fi2, fi3, nI_toInt, nI_add, pk_mul, nI_leI, nI_ltI, nI_eq, pk_sub, ib_nI, nI_clamp, va_up_self, va_up_ne, va_up_up, va_up_comm, pk_us, pk_un, upd_up, updL_up, pk_uLs, pk_uLn, b01_1, b01_0, b01_1s, b01_0s, or_b]
        exact this
      · have y12 := y1.tr y2
        by_cases q : cY c i = 7
        · simp (disch := omega) [w147_35, w147_37, w147_39, w147_40, w147_43, w147_44, w147_45, w147_47, w147_49, w147_52, w147_53, w147_54, x147_56_2, rt147, aw_st, ai_cls, ai_len, ai_p, ai_sw, ai_m, ai_c, ai_at, ai_isI, ai_isJ, ai_isA, ai_ld, ai_1i, ai_2i, ai_2l, ai_cn, ai_j, ai_set, ai_set2, ai_nl, ai_rs, ai_sm, Value.category, hk0, hk1, lits, litb, litm, litm2, List.getElem?_cons_zero, List.getElem?_cons_succ, or_n0, bit_r, fi0, fi1, fi2, fi3, nI_toInt, nI_add, pk_mul, nI_leI, nI_ltI, nI_eq, pk_sub, ib_nI, nI_clamp, va_up_self, va_up_ne, va_up_up, va_up_comm, pk_us, pk_un, upd_up, updL_up, pk_uLs, pk_uLn, b01_1, b01_0, b01_1s, b01_0s, or_b, nI_mi1, q]
          refine Hnum r2 (OKc_h ok y12) (cA_le (cA_le hi)) (by omega) (by omega) (fun e j en X3 Y3 y3 r3 => ?_) (fun z i4 en hz hi4 X3 Y3 y3 r3 => ?_)
          · have := hQ1 e j (by unfold sTalk; rw [if_pos q7]; simp only [es]; rw [if_pos q]; simp only [en]) X3 Y3 (y12.tr y3).fb r3
            simp (disch := omega) [w147_59, w147_62, w147_63, x147_64_2, w147_67, w147_69, w147_70, w147_72, w147_73, w147_75, x147_77_30, w147_80, rt147, aw_st, ai_cls, ai_len, ai_p, ai_sw, ai_m, ai_c, ai_at, ai_isI, ai_isJ, ai_isA, ai_ld, ai_1i, ai_2i, ai_2l, ai_cn, ai_j, ai_set, ai_set2, ai_nl, ai_rs, ai_sm, Value.category, hk0, hk1, lits, litb, litm, litm2, List.getElem?_cons_zero, List.getElem?_cons_succ, or_n0, bit_r, fi0, fi1, fi2, fi3, nI_toInt, nI_add, pk_mul, nI_leI, nI_ltI, nI_eq, pk_sub, ib_nI, nI_clamp, va_up_self, va_up_ne, va_up_up, va_up_comm, pk_us, pk_un, upd_up, updL_up, pk_uLs, pk_uLn, b01_1, b01_0, b01_1s, b01_0s, or_b, addLine_0]
            exact this
          · have hz1 := (sNum_ok en).2.1
            have hal := fun (Q : List Value → Nat → Nat → ai_M → Prop) => addLine_eq (G := G) (d := d + 3) (sl := sl) (Q := Q) (X := X3) (Y := Y3) (m := m) (act := nI 7) (a := nI a) (b := nI b) (z := nI z) (by rw [(y12.tr y3).1 30 (by omega)]; exact hm) hm2 (nI_mi1 (by omega))
            have := hQ2 i4 (0, a, b, z) (by unfold sTalk; rw [if_pos q7]; simp only [es]; rw [if_pos q]; simp only [en]) hi4 (Or.inl ⟨rfl, ha, hb, hz1, hz⟩) X3 Y3 (y12.tr y3) r3
            simp (disch := omega) [w147_59, w147_62, w147_63, x147_64_2, w147_67, w147_69, w147_70, w147_72, w147_73, w147_75, x147_77_30, w147_80, rt147, aw_st, ai_cls, ai_len, ai_p, ai_sw, ai_m, ai_c, ai_at, ai_isI, ai_isJ, ai_isA, ai_ld, ai_1i, ai_2i, ai_2l, ai_cn, ai_j, ai_set, ai_set2, ai_nl, ai_rs, ai_sm, Value.category, hk0, hk1, lits, litb, litm, litm2, List.getElem?_cons_zero, List.getElem?_cons_succ, or_n0, bit_r, fi0, fi1, fi2, fi3, nI_toInt, nI_add, pk_mul, nI_leI, nI_ltI, nI_eq, pk_sub, ib_nI, nI_clamp, va_up_self, va_up_ne, va_up_up, va_up_comm, pk_us, pk_un, upd_up, updL_up, pk_uLs, pk_uLn, b01_1, b01_0, b01_1s, b01_0s, or_b, hal]
            exact this
        · have q8 : cY c i = 8 := by omega
          simp (disch := omega) [w147_35, w147_37, w147_39, w147_40, w147_43, w147_44, w147_45, w147_47, w147_49, w147_62, w147_63, x147_64_2, rt147, aw_st, ai_cls, ai_len, ai_p, ai_sw, ai_m, ai_c, ai_at, ai_isI, ai_isJ, ai_isA, ai_ld, ai_1i, ai_2i, ai_2l, ai_cn, ai_j, ai_set, ai_set2, ai_nl, ai_rs, ai_sm, Value.category, hk0, hk1, lits, litb, litm, litm2, List.getElem?_cons_zero, List.getElem?_cons_succ, or_n0, bit_r, fi0, fi1, fi2, fi3, nI_toInt, nI_add, pk_mul, nI_leI, nI_ltI, nI_eq, pk_sub, ib_nI, nI_clamp, va_up_self, va_up_ne, va_up_up, va_up_comm, pk_us, pk_un, upd_up, updL_up, pk_uLs, pk_uLn, b01_1, b01_0, b01_1s, b01_0s, or_b, nI_mi1, q8]
          refine Hstory (nm := nmS nm) r2 (OKc_h ok y12) (cA_le (cA_le hi)) hS (by rw [y12.1 47 (by omega)]; exact k8) (by rw [y12.2 51 (by omega)]; exact n2) (fun e j en X3 Y3 y3 r3 => ?_) (fun z en hz X3 Y3 y3 r3 => ?_)
          · have := hQ1 e j (by unfold sTalk; rw [if_pos q7]; simp only [es]; rw [if_neg q]; simp only [en]) X3 Y3 (y12.tr y3).fb r3
            simp (disch := omega) [w147_67, w147_69, w147_70, w147_72, w147_73, w147_75, x147_77_30, w147_80, rt147, aw_st, ai_cls, ai_len, ai_p, ai_sw, ai_m, ai_c, ai_at, ai_isI, ai_isJ, ai_isA, ai_ld, ai_1i, ai_2i, ai_2l, ai_cn, ai_j, ai_set, ai_set2, ai_nl, ai_rs, ai_sm, Value.category, hk0, hk1, lits, litb, litm, litm2, List.getElem?_cons_zero, List.getElem?_cons_succ, or_n0, bit_r, fi0, fi1, fi2, fi3, nI_toInt, nI_add, pk_mul, nI_leI, nI_ltI, nI_eq, pk_sub, ib_nI, nI_clamp, va_up_self, va_up_ne, va_up_up, va_up_comm, pk_us, pk_un, upd_up, updL_up, pk_uLs, pk_uLn, b01_1, b01_0, b01_1s, b01_0s, or_b, addLine_0]
            exact this
          · have hal := fun (Q : List Value → Nat → Nat → ai_M → Prop) => addLine_eq (G := G) (d := d + 3) (sl := sl) (Q := Q) (X := X3) (Y := Y3) (m := m) (act := nI 8) (a := nI a) (b := nI b) (z := nI z) (by rw [(y12.tr y3).1 30 (by omega)]; exact hm) hm2 (nI_mi1 (by omega))
            have := hQ2 _ (1, a, b, z) (by unfold sTalk; rw [if_pos q7]; simp only [es]; rw [if_neg q]; simp only [en]) (cA_le (cA_le (cA_le hi))) (Or.inr (Or.inl ⟨rfl, ha, hb, hz⟩)) X3 Y3 (y12.tr y3) r3
            simp (disch := omega) [w147_67, w147_69, w147_70, w147_72, w147_73, w147_75, x147_77_30, w147_80, rt147, aw_st, ai_cls, ai_len, ai_p, ai_sw, ai_m, ai_c, ai_at, ai_isI, ai_isJ, ai_isA, ai_ld, ai_1i, ai_2i, ai_2l, ai_cn, ai_j, ai_set, ai_set2, ai_nl, ai_rs, ai_sm, Value.category, hk0, hk1, lits, litb, litm, litm2, List.getElem?_cons_zero, List.getElem?_cons_succ, or_n0, bit_r, fi0, fi1, fi2, fi3, nI_toInt, nI_add, pk_mul, nI_leI, nI_ltI, nI_eq, pk_sub, ib_nI, nI_clamp, va_up_self, va_up_ne, va_up_up, va_up_comm, pk_us, pk_un, upd_up, updL_up, pk_uLs, pk_uLn, b01_1, b01_0, b01_1s, b01_0s, or_b, hal]
            exact this
    rcases q7 with q7 | q7
    · have h8' : X 2 8 = nI 7 := by rw [h8, q7]; rfl
      rw [q7] at hgo
      simp (disch := omega) [w147_0, x147_1_2, w147_4, w147_6, w147_8, w147_10, rt147, aw_st, ai_cls, ai_len, ai_p, ai_sw, ai_m, ai_c, ai_at, ai_isI, ai_isJ, ai_isA, ai_ld, ai_1i, ai_2i, ai_2l, ai_cn, ai_j, ai_set, ai_set2, ai_nl, ai_rs, ai_sm, Value.category, hk0, hk1, lits, litb, litm, litm2, List.getElem?_cons_zero, List.getElem?_cons_succ, or_n0, bit_r, fi0, fi1, fi2, fi3, nI_toInt, nI_add, pk_mul, nI_leI, nI_ltI, nI_eq, pk_sub, ib_nI, nI_clamp, va_up_self, va_up_ne, va_up_up, va_up_comm, pk_us, pk_un, upd_up, updL_up, pk_uLs, pk_uLn, b01_1, b01_0, b01_1s, b01_0s, or_b, h8']
      exact hgo
    · have h8' : X 2 8 = nI 8 := by rw [h8, q7]; rfl
      rw [q7] at hgo
      simp (disch := omega) [w147_0, x147_1_2, w147_4, w147_6, w147_8, w147_10, w147_13, w147_15, w147_17, rt147, aw_st, ai_cls, ai_len, ai_p, ai_sw, ai_m, ai_c, ai_at, ai_isI, ai_isJ, ai_isA, ai_ld, ai_1i, ai_2i, ai_2l, ai_cn, ai_j, ai_set, ai_set2, ai_nl, ai_rs, ai_sm, Value.category, hk0, hk1, lits, litb, litm, litm2, List.getElem?_cons_zero, List.getElem?_cons_succ, or_n0, bit_r, fi0, fi1, fi2, fi3, nI_toInt, nI_add, pk_mul, nI_leI, nI_ltI, nI_eq, pk_sub, ib_nI, nI_clamp, va_up_self, va_up_ne, va_up_up, va_up_comm, pk_us, pk_un, upd_up, updL_up, pk_uLs, pk_uLn, b01_1, b01_0, b01_1s, b01_0s, or_b, h8']
      exact hgo
  · obtain ⟨qa, qb⟩ := not_or.mp q7
    have g7 : ¬ X 2 8 = nI 7 := by rw [h8, yI_nI (by omega)]; exact qa
    have g8 : ¬ X 2 8 = nI 8 := by rw [h8, yI_nI (by omega)]; exact qb
    have hb := fun X' Y' f r => hQ1 1 i (by unfold sTalk; rw [if_neg q7]) X' Y' f r
    simp (disch := omega) [w147_0, x147_1_2, w147_4, w147_6, w147_8, w147_10, w147_13, w147_15, w147_17, w147_20, w147_21, x147_22_2, rt147, aw_st, ai_cls, ai_len, ai_p, ai_sw, ai_m, ai_c, ai_at, ai_isI, ai_isJ, ai_isA, ai_ld, ai_1i, ai_2i, ai_2l, ai_cn, ai_j, ai_set, ai_set2, ai_nl, ai_rs, ai_sm, Value.category, hk0, hk1, lits, litb, litm, litm2, List.getElem?_cons_zero, List.getElem?_cons_succ, or_n0, bit_r, fi0, fi1, fi2, fi3, nI_toInt, nI_add, pk_mul, nI_leI, nI_ltI, nI_eq, pk_sub, ib_nI, nI_clamp, va_up_self, va_up_ne, va_up_up, va_up_comm, pk_us, pk_un, upd_up, updL_up, pk_uLs, pk_uLn, b01_1, b01_0, b01_1s, b01_0s, or_b, g7, g8]
    refine Hrefused h (fun X' Y' y r => ?_)
    have := hb X' Y' y.fb r
    simp (disch := omega) [w147_25, rt147, aw_st, ai_cls, ai_len, ai_p, ai_sw, ai_m, ai_c, ai_at, ai_isI, ai_isJ, ai_isA, ai_ld, ai_1i, ai_2i, ai_2l, ai_cn, ai_j, ai_set, ai_set2, ai_nl, ai_rs, ai_sm, Value.category, hk0, hk1, lits, litb, litm, litm2, List.getElem?_cons_zero, List.getElem?_cons_succ, or_n0, bit_r, fi0, fi1, fi2, fi3, nI_toInt, nI_add, pk_mul, nI_leI, nI_ltI, nI_eq, pk_sub, ib_nI, nI_clamp, va_up_self, va_up_ne, va_up_up, va_up_comm, pk_us, pk_un, upd_up, updL_up, pk_uLs, pk_uLn, b01_1, b01_0, b01_1s, b01_0s, or_b]
    exact this
set_option maxHeartbeats 8000000 in
theorem rBLine_wp (ht : TN X Y nm P S) (h : RDC c i (X 2) (Y 2) flt) (ok : OKc c X) (hi : i ≤ c.2.1) (hm : X 30 4 = nI m) (hm2 : m ≤ 30) (hQ1 : bkBad Q sl c X Y (sBLine c nm P S i m)) (hQ2 : bkOk Q sl c X Y P S m flt (sBLine c nm P S i m)) : aw ET G (d + 5) 145 0 [some (.ref 30), some (.ref 2), some (.ref 47), none, none, none] [] 231 sl (mem X Y) Q := by
  have h8 : X 2 8 = yI (cY c i) := h.2.2.2.2.2.2.1
  have ht' := ht
  obtain ⟨hP, hS, k7, k8, n1, n2⟩ := ht
  by_cases q9 : cY c i = 9 ∨ cY c i = 10
  · have hb4 : m = 30 → ∀ X' Y', FB X Y X' Y' → RDC c i (X' 2) (Y' 2) (nI 4) → Q [.int (nI 0)] 231 sl (mem X' Y') := fun e X' Y' f r => hQ1 4 i (by unfold sBLine; rw [if_pos q9, if_pos e]) X' Y' f r
    have hgo : aw ET G (d + 5) 145 47 [some (.ref 30), some (.ref 2), some (.ref 47), some (.int (nI 1)), some (.int (nI 0)), none] [] 231 sl (mem X Y) Q := by
      by_cases e30 : m = 30
      · simp (disch := omega) [w145_47, x145_48_30, w145_51, w145_53, w145_56, w145_57, x145_58_2, rt145, aw_st, ai_cls, ai_len, ai_p, ai_sw, ai_m, ai_c, ai_at, ai_isI, ai_isJ, ai_isA, ai_ld, ai_1i, ai_2i, ai_2l, ai_cn, ai_j, ai_set, ai_set2, ai_nl, ai_rs, ai_sm, Value.category, hk0, hk1, lits, litb, litm, litm2, List.getElem?_cons_zero, List.getElem?_cons_succ, or_n0, bit_r, fi0, fi1, fi2, fi3, nI_toInt, nI_add, pk_mul, nI_leI, nI_ltI, nI_eq, pk_sub, ib_nI, nI_clamp, va_up_self, va_up_ne, va_up_up, va_up_comm, pk_us, pk_un, upd_up, updL_up, pk_uLs, pk_uLn, b01_1, b01_0, b01_1s, b01_0s, or_b, hm, e30]
        refine Hrefused h (fun X' Y' y r => ?_)
        have := hb4 e30 X' Y' y.fb r
        simp (disch := omega) [w145_61, rt145, aw_st, ai_cls, ai_len, ai_p, ai_sw, ai_m, ai_c, ai_at, ai_isI, ai_isJ, ai_isA, ai_ld, ai_1i, ai_2i, ai_2l, ai_cn, ai_j, ai_set, ai_set2, ai_nl, ai_rs, ai_sm, Value.category, hk0, hk1, lits, litb, litm, litm2, List.getElem?_cons_zero, List.getElem?_cons_succ, or_n0, bit_r, fi0, fi1, fi2, fi3, nI_toInt, nI_add, pk_mul, nI_leI, nI_ltI, nI_eq, pk_sub, ib_nI, nI_clamp, va_up_self, va_up_ne, va_up_up, va_up_comm, pk_us, pk_un, upd_up, updL_up, pk_uLs, pk_uLn, b01_1, b01_0, b01_1s, b01_0s, or_b]
        exact this
      · have h8k : X 2 8 = nI (cY c i) := by rw [h8, yI, if_pos (by omega)]
        simp (disch := omega) [w145_47, x145_48_30, w145_51, w145_53, w145_62, x145_63_2, w145_66, w145_68, x145_69_2, rt145, aw_st, ai_cls, ai_len, ai_p, ai_sw, ai_m, ai_c, ai_at, ai_isI, ai_isJ, ai_isA, ai_ld, ai_1i, ai_2i, ai_2l, ai_cn, ai_j, ai_set, ai_set2, ai_nl, ai_rs, ai_sm, Value.category, hk0, hk1, lits, litb, litm, litm2, List.getElem?_cons_zero, List.getElem?_cons_succ, or_n0, bit_r, fi0, fi1, fi2, fi3, nI_toInt, nI_add, pk_mul, nI_leI, nI_ltI, nI_eq, pk_sub, ib_nI, nI_clamp, va_up_self, va_up_ne, va_up_up, va_up_comm, pk_us, pk_un, upd_up, updL_up, pk_uLs, pk_uLn, b01_1, b01_0, b01_1s, b01_0s, or_b, hm, h8k, show m < 30 by omega, show ¬ 30 ≤ m by omega]
        refine Hstep h ok hi (fun X1 Y1 y1 r1 => ?_)
        by_cases q10 : cY c i = 10
        · have hal := fun (Q : List Value → Nat → Nat → ai_M → Prop) => addLine_eq (G := G) (d := d + 4) (sl := sl) (Q := Q) (X := X1) (Y := Y1) (m := m) (act := nI 10) (a := nI 0) (b := nI 0) (z := nI 0) (by rw [y1.1 30 (by omega)]; exact hm) (by omega) (nI_mi1 (by omega))
          have := hQ2 _ (3, 0, 0, 0) (by unfold sBLine; rw [if_pos q9, if_neg e30, if_pos q10]) (cA_le hi) (Or.inr (Or.inr (Or.inr rfl))) X1 Y1 y1 r1
          simp (disch := omega) [w145_72, w145_74, w145_76, w145_79, w145_80, w145_82, w145_83, w145_84, x145_85_30, w145_88, rt145, aw_st, ai_cls, ai_len, ai_p, ai_sw, ai_m, ai_c, ai_at, ai_isI, ai_isJ, ai_isA, ai_ld, ai_1i, ai_2i, ai_2l, ai_cn, ai_j, ai_set, ai_set2, ai_nl, ai_rs, ai_sm, Value.category, hk0, hk1, lits, litb, litm, litm2, List.getElem?_cons_zero, List.getElem?_cons_succ, or_n0, bit_r, fi0, fi1, fi2, fi3, nI_toInt, nI_add, pk_mul, nI_leI, nI_ltI, nI_eq, pk_sub, ib_nI, nI_clamp, va_up_self, va_up_ne, va_up_up, va_up_comm, pk_us, pk_un, upd_up, updL_up, pk_uLs, pk_uLn, b01_1, b01_0, b01_1s, b01_0s, or_b, q10, hal]
          exact this
        · have q9' : cY c i = 9 := by omega
          simp (disch := omega) [w145_72, w145_74, w145_76, w145_89, w145_91, w145_93, w145_96, w145_97, w145_99, w145_100, w145_101, w145_102, w145_103, x145_105_2, rt145, aw_st, ai_cls, ai_len, ai_p, ai_sw, ai_m, ai_c, ai_at, ai_isI, ai_isJ, ai_isA, ai_ld, ai_1i, ai_2i, ai_2l, ai_cn, ai_j, ai_set, ai_set2, ai_nl, ai_rs, ai_sm, Value.category, hk0, hk1, lits, litb, litm, litm2, List.getElem?_cons_zero, List.getElem?_cons_succ, or_n0, bit_r, fi0, fi1, fi2, fi3, nI_toInt, nI_add, pk_mul, nI_leI, nI_ltI, nI_eq, pk_sub, ib_nI, nI_clamp, va_up_self, va_up_ne, va_up_up, va_up_comm, pk_us, pk_un, upd_up, updL_up, pk_uLs, pk_uLn, b01_1, b01_0, b01_1s, b01_0s, or_b, q9']
          refine Hnum r1 (OKc_h ok y1) (cA_le hi) (by omega) (by omega) (fun e j en X2 Y2 y2 r2 => ?_) (fun z i2 en hz hi2 X2 Y2 y2 r2 => ?_)
          · have := hQ1 e j (by unfold sBLine; rw [if_pos q9, if_neg e30, if_neg q10]; simp only [en]) X2 Y2 (y1.tr y2).fb r2
            simp (disch := omega) [x145_108_30, w145_111, rt145, aw_st, ai_cls, ai_len, ai_p, ai_sw, ai_m, ai_c, ai_at, ai_isI, ai_isJ, ai_isA, ai_ld, ai_1i, ai_2i, ai_2l, ai_cn, ai_j, ai_set, ai_set2, ai_nl, ai_rs, ai_sm, Value.category, hk0, hk1, lits, litb, litm, litm2, List.getElem?_cons_zero, List.getElem?_cons_succ, or_n0, bit_r, fi0, fi1, fi2, fi3, nI_toInt, nI_add, pk_mul, nI_leI, nI_ltI, nI_eq, pk_sub, ib_nI, nI_clamp, va_up_self, va_up_ne, va_up_up, va_up_comm, pk_us, pk_un, upd_up, updL_up, pk_uLs, pk_uLn, b01_1, b01_0, b01_1s, b01_0s, or_b, addLine_0]
            exact this
          · have hz1 := (sNum_ok en).2.1
            have hal := fun (Q : List Value → Nat → Nat → ai_M → Prop) => addLine_eq (G := G) (d := d + 4) (sl := sl) (Q := Q) (X := X2) (Y := Y2) (m := m) (act := nI 9) (a := nI 0) (b := nI 0) (z := nI z) (by rw [(y1.tr y2).1 30 (by omega)]; exact hm) (by omega) (nI_mi1 (by omega))
            have := hQ2 i2 (2, 0, 0, z) (by unfold sBLine; rw [if_pos q9, if_neg e30, if_neg q10]; simp only [en]) hi2 (Or.inr (Or.inr (Or.inl ⟨rfl, rfl, rfl, hz1, hz⟩))) X2 Y2 (y1.tr y2) r2
            simp (disch := omega) [x145_108_30, w145_111, rt145, aw_st, ai_cls, ai_len, ai_p, ai_sw, ai_m, ai_c, ai_at, ai_isI, ai_isJ, ai_isA, ai_ld, ai_1i, ai_2i, ai_2l, ai_cn, ai_j, ai_set, ai_set2, ai_nl, ai_rs, ai_sm, Value.category, hk0, hk1, lits, litb, litm, litm2, List.getElem?_cons_zero, List.getElem?_cons_succ, or_n0, bit_r, fi0, fi1, fi2, fi3, nI_toInt, nI_add, pk_mul, nI_leI, nI_ltI, nI_eq, pk_sub, ib_nI, nI_clamp, va_up_self, va_up_ne, va_up_up, va_up_comm, pk_us, pk_un, upd_up, updL_up, pk_uLs, pk_uLn, b01_1, b01_0, b01_1s, b01_0s, or_b, hal]
            exact this
    rcases q9 with q | q
    · have h8' : X 2 8 = nI 9 := by rw [h8, q]; rfl
      simp (disch := omega) [w145_0, x145_1_2, w145_4, w145_6, w145_9, x145_10_2, w145_13, w145_15, w145_18, w145_19, w145_22, w145_23, w145_24, w145_25, w145_28, w145_29, w145_32, w145_33, x145_34_2, w145_37, w145_39, w145_41, w145_42, rt145, aw_st, ai_cls, ai_len, ai_p, ai_sw, ai_m, ai_c, ai_at, ai_isI, ai_isJ, ai_isA, ai_ld, ai_1i, ai_2i, ai_2l, ai_cn, ai_j, ai_set, ai_set2, ai_nl, ai_rs, ai_sm, Value.category, hk0, hk1, lits, litb, litm, litm2, List.getElem?_cons_zero, List.getElem?_cons_succ, or_n0, bit_r, fi0, fi1, fi2, fi3, nI_toInt, nI_add, pk_mul, nI_leI, nI_ltI, nI_eq, pk_sub, ib_nI, nI_clamp, va_up_self, va_up_ne, va_up_up, va_up_comm, pk_us, pk_un, upd_up, updL_up, pk_uLs, pk_uLn, b01_1, b01_0, b01_1s, b01_0s, or_b, h8', mi1_nI, nI_mi1]
      exact hgo
    · have h8' : X 2 8 = nI 10 := by rw [h8, q]; rfl
      simp (disch := omega) [w145_0, x145_1_2, w145_4, w145_6, w145_9, x145_10_2, w145_13, w145_15, w145_18, w145_19, w145_22, w145_23, w145_24, w145_25, w145_28, w145_29, w145_32, w145_33, x145_34_2, w145_37, w145_39, w145_41, w145_42, rt145, aw_st, ai_cls, ai_len, ai_p, ai_sw, ai_m, ai_c, ai_at, ai_isI, ai_isJ, ai_isA, ai_ld, ai_1i, ai_2i, ai_2l, ai_cn, ai_j, ai_set, ai_set2, ai_nl, ai_rs, ai_sm, Value.category, hk0, hk1, lits, litb, litm, litm2, List.getElem?_cons_zero, List.getElem?_cons_succ, or_n0, bit_r, fi0, fi1, fi2, fi3, nI_toInt, nI_add, pk_mul, nI_leI, nI_ltI, nI_eq, pk_sub, ib_nI, nI_clamp, va_up_self, va_up_ne, va_up_up, va_up_comm, pk_us, pk_un, upd_up, updL_up, pk_uLs, pk_uLn, b01_1, b01_0, b01_1s, b01_0s, or_b, h8', mi1_nI, nI_mi1]
      exact hgo
  · obtain ⟨qa, qb⟩ := not_or.mp q9
    have g9 : ¬ X 2 8 = nI 9 := by rw [h8, yI_nI (by omega)]; exact qa
    have g10 : ¬ X 2 8 = nI 10 := by rw [h8, yI_nI (by omega)]; exact qb
    simp (disch := omega) [w145_0, x145_1_2, w145_4, w145_6, w145_9, x145_10_2, w145_13, w145_15, w145_18, w145_19, w145_22, w145_23, w145_24, w145_25, w145_28, w145_29, w145_32, w145_33, x145_34_2, rt145, aw_st, ai_cls, ai_len, ai_p, ai_sw, ai_m, ai_c, ai_at, ai_isI, ai_isJ, ai_isA, ai_ld, ai_1i, ai_2i, ai_2l, ai_cn, ai_j, ai_set, ai_set2, ai_nl, ai_rs, ai_sm, Value.category, hk0, hk1, lits, litb, litm, litm2, List.getElem?_cons_zero, List.getElem?_cons_succ, or_n0, bit_r, fi0, fi1, fi2, fi3, nI_toInt, nI_add, pk_mul, nI_leI, nI_ltI, nI_eq, pk_sub, ib_nI, nI_clamp, va_up_self, va_up_ne, va_up_up, va_up_comm, pk_us, pk_un, upd_up, updL_up, pk_uLs, pk_uLn, b01_1, b01_0, b01_1s, b01_0s, or_b, g9, g10]
    refine Hone (nm := nm) h ok hi hP k7 n1 (fun e j es X1 Y1 y1 r1 => ?_) (fun a es ha => ?_)
    · have := hQ1 e j (by unfold sBLine; rw [if_neg q9]; simp only [es]) X1 Y1 y1.fb r1
      simp (disch := omega) [w145_37, w145_39, w145_41, w145_42, w145_45, w145_46, rt145, aw_st, ai_cls, ai_len, ai_p, ai_sw, ai_m, ai_c, ai_at, ai_isI, ai_isJ, ai_isA, ai_ld, ai_1i, ai_2i, ai_2l, ai_cn, ai_j, ai_set, ai_set2, ai_nl, ai_rs, ai_sm, Value.category, hk0, hk1, lits, litb, litm, litm2, List.getElem?_cons_zero, List.getElem?_cons_succ, or_n0, bit_r, fi0, fi1, fi2, fi3, nI_toInt, nI_add, pk_mul, nI_leI, nI_ltI, nI_eq, pk_sub, ib_nI, nI_clamp, va_up_self, va_up_ne, va_up_up, va_up_comm, pk_us, pk_un, upd_up, updL_up, pk_uLs, pk_uLn, b01_1, b01_0, b01_1s, b01_0s, or_b]
      exact this
    · by_cases e30 : m = 30
      · have hb := fun X' Y' f r => hQ1 4 i (by unfold sBLine; rw [if_neg q9]; simp only [es]; rw [if_pos e30]) X' Y' f r
        simp (disch := omega) [w145_37, w145_39, w145_41, w145_42, w145_45, w145_46, w145_47, x145_48_30, w145_51, w145_53, w145_56, w145_57, x145_58_2, rt145, aw_st, ai_cls, ai_len, ai_p, ai_sw, ai_m, ai_c, ai_at, ai_isI, ai_isJ, ai_isA, ai_ld, ai_1i, ai_2i, ai_2l, ai_cn, ai_j, ai_set, ai_set2, ai_nl, ai_rs, ai_sm, Value.category, hk0, hk1, lits, litb, litm, litm2, List.getElem?_cons_zero, List.getElem?_cons_succ, or_n0, bit_r, fi0, fi1, fi2, fi3, nI_toInt, nI_add, pk_mul, nI_leI, nI_ltI, nI_eq, pk_sub, ib_nI, nI_clamp, va_up_self, va_up_ne, va_up_up, va_up_comm, pk_us, pk_un, upd_up, updL_up, pk_uLs, pk_uLn, b01_1, b01_0, b01_1s, b01_0s, or_b, nI_mi1, hm, e30]
        refine Hrefused h (fun X' Y' y r => ?_)
        have := hb X' Y' y.fb r
        simp (disch := omega) [w145_61, rt145, aw_st, ai_cls, ai_len, ai_p, ai_sw, ai_m, ai_c, ai_at, ai_isI, ai_isJ, ai_isA, ai_ld, ai_1i, ai_2i, ai_2l, ai_cn, ai_j, ai_set, ai_set2, ai_nl, ai_rs, ai_sm, Value.category, hk0, hk1, lits, litb, litm, litm2, List.getElem?_cons_zero, List.getElem?_cons_succ, or_n0, bit_r, fi0, fi1, fi2, fi3, nI_toInt, nI_add, pk_mul, nI_leI, nI_ltI, nI_eq, pk_sub, ib_nI, nI_clamp, va_up_self, va_up_ne, va_up_up, va_up_comm, pk_us, pk_un, upd_up, updL_up, pk_uLs, pk_uLn, b01_1, b01_0, b01_1s, b01_0s, or_b]
        exact this
      · simp (disch := omega) [w145_37, w145_39, w145_41, w145_42, w145_45, w145_46, w145_47, x145_48_30, w145_51, w145_53, w145_62, x145_63_2, w145_66, w145_68, x145_69_2, rt145, aw_st, ai_cls, ai_len, ai_p, ai_sw, ai_m, ai_c, ai_at, ai_isI, ai_isJ, ai_isA, ai_ld, ai_1i, ai_2i, ai_2l, ai_cn, ai_j, ai_set, ai_set2, ai_nl, ai_rs, ai_sm, Value.category, hk0, hk1, lits, litb, litm, litm2, List.getElem?_cons_zero, List.getElem?_cons_succ, or_n0, bit_r, fi0, fi1, fi2, fi3, nI_toInt, nI_add, pk_mul, nI_leI, nI_ltI, nI_eq, pk_sub, ib_nI, nI_clamp, va_up_self, va_up_ne, va_up_up, va_up_comm, pk_us, pk_un, upd_up, updL_up, pk_uLs, pk_uLn, b01_1, b01_0, b01_1s, b01_0s, or_b, nI_mi1, hm, show m < 30 by omega, show ¬ 30 ≤ m by omega]
        refine Hstep h ok hi (fun X1 Y1 y1 r1 => ?_)
        have et : sBLine c nm P S i m = sTalk c nm P S (cA c i) a := by unfold sBLine; rw [if_neg q9]; simp only [es]; rw [if_neg e30]
        rw [et] at hQ1 hQ2
        simp (disch := omega) [w145_72, w145_74, w145_76, w145_89, w145_91, w145_93, w145_112, w145_113, w145_114, w145_115, x145_117_30, rt145, aw_st, ai_cls, ai_len, ai_p, ai_sw, ai_m, ai_c, ai_at, ai_isI, ai_isJ, ai_isA, ai_ld, ai_1i, ai_2i, ai_2l, ai_cn, ai_j, ai_set, ai_set2, ai_nl, ai_rs, ai_sm, Value.category, hk0, hk1, lits, litb, litm, litm2, List.getElem?_cons_zero, List.getElem?_cons_succ, or_n0, bit_r, fi0, fi1, fi2, fi3, nI_toInt, nI_add, pk_mul, nI_leI, nI_ltI, nI_eq, pk_sub, ib_nI, nI_clamp, va_up_self, va_up_ne, va_up_up, va_up_comm, pk_us, pk_un, upd_up, updL_up, pk_uLs, pk_uLn, b01_1, b01_0, b01_1s, b01_0s, or_b, g9, g10]
        refine rTalk_wp (TN_fb ht' y1.fb) r1 (OKc_h ok y1) (cA_le hi) ha (by rw [y1.1 30 (by omega)]; exact hm) (by omega) (fun e j el X2 Y2 f2 r2 => ?_) (fun i2 L el hi2 hL X2 Y2 y2 r2 => ?_)
        · have := hQ1 e j el X2 Y2 (y1.fb.tr f2) r2
          simp (disch := omega) [w145_120, rt145, aw_st, ai_cls, ai_len, ai_p, ai_sw, ai_m, ai_c, ai_at, ai_isI, ai_isJ, ai_isA, ai_ld, ai_1i, ai_2i, ai_2l, ai_cn, ai_j, ai_set, ai_set2, ai_nl, ai_rs, ai_sm, Value.category, hk0, hk1, lits, litb, litm, litm2, List.getElem?_cons_zero, List.getElem?_cons_succ, or_n0, bit_r, fi0, fi1, fi2, fi3, nI_toInt, nI_add, pk_mul, nI_leI, nI_ltI, nI_eq, pk_sub, ib_nI, nI_clamp, va_up_self, va_up_ne, va_up_up, va_up_comm, pk_us, pk_un, upd_up, updL_up, pk_uLs, pk_uLn, b01_1, b01_0, b01_1s, b01_0s, or_b]
          exact this
        · have := hQ2 i2 L el hi2 hL X2 Y2 (y1.tr y2) r2
          simp (disch := omega) [w145_120, rt145, aw_st, ai_cls, ai_len, ai_p, ai_sw, ai_m, ai_c, ai_at, ai_isI, ai_isJ, ai_isA, ai_ld, ai_1i, ai_2i, ai_2l, ai_cn, ai_j, ai_set, ai_set2, ai_nl, ai_rs, ai_sm, Value.category, hk0, hk1, lits, litb, litm, litm2, List.getElem?_cons_zero, List.getElem?_cons_succ, or_n0, bit_r, fi0, fi1, fi2, fi3, nI_toInt, nI_add, pk_mul, nI_leI, nI_ltI, nI_eq, pk_sub, ib_nI, nI_clamp, va_up_self, va_up_ne, va_up_up, va_up_comm, pk_us, pk_un, upd_up, updL_up, pk_uLs, pk_uLn, b01_1, b01_0, b01_1s, b01_0s, or_b]
          exact this
def BB (B : BL) (m P S : Nat) : Prop := ∀ q, q < m → okL P S (B q)
theorem BB_u {L : BLn} (h : BB B m P S) (hL : okL P S L) : BB (BU B m L) (m + 1) P S := by
  intro q hq
  unfold BU
  by_cases e : q = m
  · rw [if_pos e]; exact hL
  · rw [if_neg e]; exact h q (by omega)
set_option maxHeartbeats 8000000 in
theorem rBook_loop : ∀ (r m i : Nat) (B : BL) (X : mX) (Y : mY), m + r = 31 → m ≤ 30 → TN X Y nm P S → RDC c i (X 2) (Y 2) (nI 0) → OKc c X → i ≤ c.2.1 → X 30 4 = nI m → CB X B m → BB B m P S → (∀ e j, sBook c nm P S r i m B = .inl (e, j) → ∀ X' Y', FB X Y X' Y' → RDC c j (X' 2) (Y' 2) (nI e) → Q [.int (nI 0)] 231 sl (mem X' Y')) → (∀ m' B', sBook c nm P S r i m B = .inr (m', B') → m' ≤ 30 → BB B' m' P S → ∀ X' Y', CB X' B' m' → X' 30 4 = nI m' → FB X Y X' Y' → X' 2 9 = nI 0 → Q [.int (nI 1)] 231 sl (mem X' Y')) → aw ET G (d + 6) 144 7 [some (.ref 30), some (.ref 2), some (.ref 47), some (.int (nI m))] [] 231 sl (mem X Y) Q := by
  intro r
  induction r with
  | zero => intro m i B X Y hm hm2; omega
  | succ r ih =>
    intro m i B X Y hm hm2 ht h ok hi h4 hc hB hQ1 hQ2
    have k4 : X 2 4 = nI (cK c i) := h.2.2.2.2.1
    have hk : cK c i < 256 := tK_lt ok.1 ok.2.1 hi
    rw [w144_7]
    by_cases e0 : cK c i = 0
    · have := hQ2 m B (by unfold sBook; rw [if_pos e0]) hm2 hB X Y hc h4 ⟨fun _ _ _ => rfl, fun _ _ => rfl, fun _ _ => rfl⟩ h.2.2.2.2.2.2.2.1
      simp (disch := omega) [w144_8, w144_10, w144_13, x144_14_2, w144_17, w144_20, w144_21, rt144, aw_st, ai_cls, ai_len, ai_p, ai_sw, ai_m, ai_c, ai_at, ai_isI, ai_isJ, ai_isA, ai_ld, ai_1i, ai_2i, ai_2l, ai_cn, ai_j, ai_set, ai_set2, ai_nl, ai_rs, ai_sm, Value.category, hk0, hk1, lits, litb, litm, litm2, List.getElem?_cons_zero, List.getElem?_cons_succ, or_n0, bit_r, fi0, fi1, fi2, fi3, nI_toInt, nI_add, pk_mul, nI_leI, nI_ltI, nI_eq, pk_sub, ib_nI, nI_clamp, va_up_self, va_up_ne, va_up_up, va_up_comm, pk_us, pk_un, upd_up, updL_up, pk_uLs, pk_uLn, b01_1, b01_0, b01_1s, b01_0s, or_b, k4, e0, show ¬ 30 < m by omega]
      exact this
    · have es : sBook c nm P S (r + 1) i m B = match sBLine c nm P S i m with
        | .inl e => .inl e
        | .inr (i2, L) => if ¬ cK c i2 = 59 then .inl (1, i2) else sBook c nm P S r (cA c i2) (m + 1) (BU B m L) := by
        rw [sBook, if_neg e0]
        cases sBLine c nm P S i m <;> rfl
      simp (disch := omega) [w144_8, w144_10, w144_13, x144_14_2, w144_17, w144_22, w144_23, w144_24, x144_25_30, rt144, aw_st, ai_cls, ai_len, ai_p, ai_sw, ai_m, ai_c, ai_at, ai_isI, ai_isJ, ai_isA, ai_ld, ai_1i, ai_2i, ai_2l, ai_cn, ai_j, ai_set, ai_set2, ai_nl, ai_rs, ai_sm, Value.category, hk0, hk1, lits, litb, litm, litm2, List.getElem?_cons_zero, List.getElem?_cons_succ, or_n0, bit_r, fi0, fi1, fi2, fi3, nI_toInt, nI_add, pk_mul, nI_leI, nI_ltI, nI_eq, pk_sub, ib_nI, nI_clamp, va_up_self, va_up_ne, va_up_up, va_up_comm, pk_us, pk_un, upd_up, updL_up, pk_uLs, pk_uLn, b01_1, b01_0, b01_1s, b01_0s, or_b, k4, e0, show ¬ 30 < m by omega]
      refine rBLine_wp ht h ok hi h4 hm2 (fun e j el X1 Y1 f1 r1 => ?_) (fun i2 L el hi2 hL X1 Y1 y1 r1 => ?_)
      · have := hQ1 e j (by rw [es, el]) X1 Y1 f1 r1
        simp (disch := omega) [w144_28, w144_40, w144_41, rt144, aw_st, ai_cls, ai_len, ai_p, ai_sw, ai_m, ai_c, ai_at, ai_isI, ai_isJ, ai_isA, ai_ld, ai_1i, ai_2i, ai_2l, ai_cn, ai_j, ai_set, ai_set2, ai_nl, ai_rs, ai_sm, Value.category, hk0, hk1, lits, litb, litm, litm2, List.getElem?_cons_zero, List.getElem?_cons_succ, or_n0, bit_r, fi0, fi1, fi2, fi3, nI_toInt, nI_add, pk_mul, nI_leI, nI_ltI, nI_eq, pk_sub, ib_nI, nI_clamp, va_up_self, va_up_ne, va_up_up, va_up_comm, pk_us, pk_un, upd_up, updL_up, pk_uLs, pk_uLn, b01_1, b01_0, b01_1s, b01_0s, or_b]
        exact this
      · have hm3 : m < 30 := by
          by_cases q : m = 30
          · exfalso
            subst q
            unfold sBLine at el
            split at el
            · simp at el
            · split at el
              · cases el
              · simp at el
          · omega
        have f1 : FB X Y (alX X1 m (nI (kAct L.1)) (nI L.2.1) (nI L.2.2.1) (nI L.2.2.2)) Y1 := y1.fb.tr FB_al
        have c1 : CB (alX X1 m (nI (kAct L.1)) (nI L.2.1) (nI L.2.2.1) (nI L.2.2.2)) (BU B m L) (m + 1) := CB_al (CB_h hc (fun k a b => y1.1 k (by omega)))
        have a4 : alX X1 m (nI (kAct L.1)) (nI L.2.1) (nI L.2.2.1) (nI L.2.2.2) 30 4 = nI (m + 1) := by simp [alX, va_up, upd]
        have a2 : alX X1 m (nI (kAct L.1)) (nI L.2.1) (nI L.2.2.1) (nI L.2.2.2) 2 = X1 2 := by simp [alX, va_up]
        have a1 : alX X1 m (nI (kAct L.1)) (nI L.2.1) (nI L.2.2.1) (nI L.2.2.2) 1 = X 1 := f1.1 1 (by omega) (by omega)
        generalize alX X1 m (nI (kAct L.1)) (nI L.2.1) (nI L.2.2.1) (nI L.2.2.2) = Z at *
        rw [← a2] at r1
        have okz : OKc c Z := ⟨by rw [a1]; exact ok.1, ok.2⟩
        simp (disch := omega) [w144_28, w144_31, w144_32, x144_34_2, rt144, aw_st, ai_cls, ai_len, ai_p, ai_sw, ai_m, ai_c, ai_at, ai_isI, ai_isJ, ai_isA, ai_ld, ai_1i, ai_2i, ai_2l, ai_cn, ai_j, ai_set, ai_set2, ai_nl, ai_rs, ai_sm, Value.category, hk0, hk1, lits, litb, litm, litm2, List.getElem?_cons_zero, List.getElem?_cons_succ, or_n0, bit_r, fi0, fi1, fi2, fi3, nI_toInt, nI_add, pk_mul, nI_leI, nI_ltI, nI_eq, pk_sub, ib_nI, nI_clamp, va_up_self, va_up_ne, va_up_up, va_up_comm, pk_us, pk_un, upd_up, updL_up, pk_uLs, pk_uLn, b01_1, b01_0, b01_1s, b01_0s, or_b]
        refine Htake (d := d + 2) r1 okz hi2 (by omega) (fun q X2 Y2 y2 r2 => ?_) (fun q X2 Y2 y2 r2 => ?_)
        · have := hQ1 1 i2 (by rw [es, el]; simp only [q, not_false_eq_true, if_true]) X2 Y2 (f1.tr y2.fb) r2
          simp (disch := omega) [w144_37, w144_40, w144_41, rt144, aw_st, ai_cls, ai_len, ai_p, ai_sw, ai_m, ai_c, ai_at, ai_isI, ai_isJ, ai_isA, ai_ld, ai_1i, ai_2i, ai_2l, ai_cn, ai_j, ai_set, ai_set2, ai_nl, ai_rs, ai_sm, Value.category, hk0, hk1, lits, litb, litm, litm2, List.getElem?_cons_zero, List.getElem?_cons_succ, or_n0, bit_r, fi0, fi1, fi2, fi3, nI_toInt, nI_add, pk_mul, nI_leI, nI_ltI, nI_eq, pk_sub, ib_nI, nI_clamp, va_up_self, va_up_ne, va_up_up, va_up_comm, pk_us, pk_un, upd_up, updL_up, pk_uLs, pk_uLn, b01_1, b01_0, b01_1s, b01_0s, or_b]
          exact this
        · have e2 : sBook c nm P S (r + 1) i m B = sBook c nm P S r (cA c i2) (m + 1) (BU B m L) := by rw [es, el]; simp only [q, not_true, if_false]
          rw [e2] at hQ1 hQ2
          have f2 := f1.tr y2.fb
          have := ih (m + 1) (cA c i2) (BU B m L) X2 Y2 (by omega) (by omega) (TN_fb ht f2) r2 (OKc_h okz y2) (cA_le hi2) (by rw [y2.1 30 (by omega)]; exact a4) (CB_h c1 (fun k a b => y2.1 k (by omega))) (BB_u hB hL) (fun e j el X' Y' f3 r3 => hQ1 e j el X' Y' (f2.tr f3) r3) (fun m' B' el hm' hB' X' Y' hc' h4' f3 r3 => hQ2 m' B' el hm' hB' X' Y' hc' h4' (f2.tr f3) r3)
          simp (disch := omega) [w144_37, w144_42, w144_45, rt144, aw_st, ai_cls, ai_len, ai_p, ai_sw, ai_m, ai_c, ai_at, ai_isI, ai_isJ, ai_isA, ai_ld, ai_1i, ai_2i, ai_2l, ai_cn, ai_j, ai_set, ai_set2, ai_nl, ai_rs, ai_sm, Value.category, hk0, hk1, lits, litb, litm, litm2, List.getElem?_cons_zero, List.getElem?_cons_succ, or_n0, bit_r, fi0, fi1, fi2, fi3, nI_toInt, nI_add, pk_mul, nI_leI, nI_ltI, nI_eq, pk_sub, ib_nI, nI_clamp, va_up_self, va_up_ne, va_up_up, va_up_comm, pk_us, pk_un, upd_up, updL_up, pk_uLs, pk_uLn, b01_1, b01_0, b01_1s, b01_0s, or_b]
          exact this
end BKB
