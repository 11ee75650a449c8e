/-! THE TEXT OF A TOWN: the class, V: LINES, the text -/
section TWQ
variable {G : ai_G} {d sl : Nat} {Q : List Value → Nat → Nat → ai_M → Prop} {Y : mY} {X : mX} {c : TC} {i P S : Nat} {f : Nat → Int32} {g : Nat → Int64} {flt : Int32} {D : TD}
theorem FR_refl (X : mX) : FR X X := fun _ _ => rfl
theorem FY_refl (Y : mY) : FY Y Y := fun _ _ => rfl
theorem FR_2 {f : Nat → Int32} : FR X (va_up X 2 f) := fun k hk => by simp only [va_up, show ¬ k = 2 by omega, if_false]
theorem FY_2 {g : Nat → Int64} : FY Y (va_up Y 2 g) := fun k hk => by simp only [va_up, show ¬ k = 2 by omega, if_false]
theorem FR_per {P a b z : Nat} : FR X (perX X f P a b z) := fun k hk => by simp only [perX, va_up, show ¬ k = 2 by omega, show ¬ k = 6 by omega, show ¬ k = 8 by omega, show ¬ k = 9 by omega, show ¬ k = 20 by omega, show ¬ k = 21 by omega, if_false]
theorem FY_per {P : Nat} {w : List Nat} : FY Y (perY Y g P w) := fun k hk => by simp only [perY, va_up, show ¬ k = 2 by omega, show ¬ k = 7 by omega, if_false]
theorem FR_sto {P a b z : Nat} : FR X (stoX X f P a b z) := fun k hk => by simp only [stoX, va_up, show ¬ k = 2 by omega, show ¬ k = 6 by omega, show ¬ k = 11 by omega, show ¬ k = 12 by omega, show ¬ k = 13 by omega, show ¬ k = 26 by omega, if_false]
theorem FY_sto {P : Nat} {w : List Nat} : FY Y (stoY Y g P w) := fun k hk => by simp only [stoY, va_up, show ¬ k = 2 by omega, show ¬ k = 10 by omega, if_false]
theorem FR_not {a b z : Nat} : FR X (notX X f a b z) := fun k hk => by simp only [notX, va_up, show ¬ k = 2 by omega, show ¬ k = 24 by omega, if_false]
theorem FR_mar {a b : Nat} : FR X (marX X f a b) := fun k hk => by simp only [marX, va_up, show ¬ k = 2 by omega, show ¬ k = 6 by omega, if_false]
theorem FR_gif {a b z : Nat} : FR X (gifX X f a b z) := fun k hk => by simp only [gifX, va_up, show ¬ k = 2 by omega, show ¬ k = 4 by omega, show ¬ k = 6 by omega, if_false]
theorem FR_24 {h4 : Nat → Int32} : FR X (va_up (va_up X 2 f) 4 h4) := fun k hk => by simp only [va_up, show ¬ k = 2 by omega, show ¬ k = 4 by omega, if_false]
theorem yI_out {j : Nat} (h7 : 7 ≤ j) (h : j ≤ 21) : (yI j).toInt < 0 ∨ 6 < (yI j).toInt := by
  unfold yI
  by_cases e : j < 21
  · rw [if_pos e, nI_toInt (by omega)]
    omega
  · rw [if_neg e]
    exact Or.inl (by decide)
set_option maxHeartbeats 8000000 in
theorem rLine_wp (h : RDC c i (X 2) (Y 2) flt) (ok : OKc c X) (hi : i ≤ c.2.1) (hD : DC X Y D P S) (hQ1 : ∀ e j, sLine c i D = .inl (e, j) → ∀ X' Y', FR X X' → FY Y Y' → RDC c j (X' 2) (Y' 2) (nI e) → Q [.int (nI 0)] 231 sl (mem X' Y')) (hQ2 : ∀ i2 D2, sLine c i D = .inr (i2, D2) → i2 ≤ c.2.1 → ∀ X' Y' P' S', DC X' Y' D2 P' S' → FR X X' → FY Y Y' → RDC c i2 (X' 2) (Y' 2) flt → Q [.int (nI 1)] 231 sl (mem X' Y')) : aw ET G (d + 5) 31 0 [some (.ref 4), some (.ref 2), some (.ref 6), some (.ref 19)] [] 231 sl (mem X Y) Q := by
  have hD' := hD
  obtain ⟨⟨a1, a2, a3, a4, a5, a6, a7, a8, a9, a10, a11⟩, ⟨b1, b2, b3, b4, b5, b6, b7, b8, b9, b10, b11⟩, -, -⟩ := hD
  have hX : X = va_up X 2 (X 2) := (va_id X 2).symm
  have hY : Y = va_up Y 2 (Y 2) := (va_id Y 2).symm
  have h8 : X 2 8 = yI (cY c i) := h.2.2.2.2.2.2.1
  have hy : cY c i ≤ 21 := tY_le
  have hE : ∀ e j, sLine c i D = .inl (e, j) → ∀ f' g', RDC c j f' g' (nI e) → Q [.int (nI 0)] 231 sl (mem (va_up X 2 f') (va_up Y 2 g')) := fun e j es f' g' r => hQ1 e j es _ _ FR_2 FY_2 (by simpa [va_up] using r)
  by_cases k0 : cY c i = 0
  · have es : sLine c i D = sPerson c i D := by unfold sLine; rw [if_pos k0]
    rw [es] at hQ2 hE
    rw [k0] at h8
    have h8' : X 2 8 = nI 0 := h8
    simp (disch := omega) [w31_0, x31_1_2, w31_4, w31_48, w31_49, w31_50, x31_51, w31_54, w31_55, w31_56, w31_57, x31_58, w31_61, w31_62, w31_63, w31_64, x31_65, w31_68, w31_69, w31_70, x31_71, w31_74, w31_75, w31_76, x31_77, w31_80, w31_81, w31_82, w31_83, x31_84_4, w31_87, w31_88, w31_89, w31_90, x31_91_4, w31_94, w31_95, w31_96, x31_97_2, w31_100, rt31, aw_st, ai_cls, ai_len, ai_p, ai_sw, ai_m, ai_c, ai_at, ai_isI, ai_isJ, ai_isA, ai_ld, ai_1i, ai_2i, ai_2l, ai_cn, ai_j, ai_set, ai_set2, ai_nl, ai_rs, ai_sm, Value.category, hk0, hk1, lits, litb, litm, litm2, List.getElem?_cons_zero, List.getElem?_cons_succ, or_n0, bit_r, fi0, fi1, fi2, fi3, nI_toInt, nI_add, pk_mul, nI_leI, nI_ltI, nI_eq, pk_sub, ib_nI, nI_clamp, va_up_self, va_up_ne, va_up_up, va_up_comm, pk_us, pk_un, upd_up, updL_up, pk_uLs, pk_uLn, b01_1, b01_0, b01_1s, b01_0s, or_b, h8']
    rw [hX, hY]
    refine rPerson_wp (D := D) h ok hi a1 a2 a5 a6 a3 a4 a7 (fun e j es f' g' r => ?_) (fun w a b z i5 hP hw ha hb hz hi5 es f' g' r => ?_)
    · have := hE e j es f' g' r
      simp (disch := omega) [w31_0, x31_1_2, w31_4, w31_48, w31_49, w31_50, x31_51, w31_54, w31_55, w31_56, w31_57, x31_58, w31_61, w31_62, w31_63, w31_64, x31_65, w31_68, w31_69, w31_70, x31_71, w31_74, w31_75, w31_76, x31_77, w31_80, w31_81, w31_82, w31_83, x31_84_4, w31_87, w31_88, w31_89, w31_90, x31_91_4, w31_94, w31_95, w31_96, x31_97_2, w31_100, rt31, aw_st, ai_cls, ai_len, ai_p, ai_sw, ai_m, ai_c, ai_at, ai_isI, ai_isJ, ai_isA, ai_ld, ai_1i, ai_2i, ai_2l, ai_cn, ai_j, ai_set, ai_set2, ai_nl, ai_rs, ai_sm, Value.category, hk0, hk1, lits, litb, litm, litm2, List.getElem?_cons_zero, List.getElem?_cons_succ, or_n0, bit_r, fi0, fi1, fi2, fi3, nI_toInt, nI_add, pk_mul, nI_leI, nI_ltI, nI_eq, pk_sub, ib_nI, nI_clamp, va_up_self, va_up_ne, va_up_up, va_up_comm, pk_us, pk_un, upd_up, updL_up, pk_uLs, pk_uLn, b01_1, b01_0, b01_1s, b01_0s, or_b]
      exact this
    · have := hQ2 _ _ es hi5 _ _ _ _ (DC_per (f' := f') (g' := g') hD' hP hw ha hb hz) FR_per FY_per (by simpa [perX, perY, va_up] using r)
      simp (disch := omega) [w31_0, x31_1_2, w31_4, w31_48, w31_49, w31_50, x31_51, w31_54, w31_55, w31_56, w31_57, x31_58, w31_61, w31_62, w31_63, w31_64, x31_65, w31_68, w31_69, w31_70, x31_71, w31_74, w31_75, w31_76, x31_77, w31_80, w31_81, w31_82, w31_83, x31_84_4, w31_87, w31_88, w31_89, w31_90, x31_91_4, w31_94, w31_95, w31_96, x31_97_2, w31_100, rt31, aw_st, ai_cls, ai_len, ai_p, ai_sw, ai_m, ai_c, ai_at, ai_isI, ai_isJ, ai_isA, ai_ld, ai_1i, ai_2i, ai_2l, ai_cn, ai_j, ai_set, ai_set2, ai_nl, ai_rs, ai_sm, Value.category, hk0, hk1, lits, litb, litm, litm2, List.getElem?_cons_zero, List.getElem?_cons_succ, or_n0, bit_r, fi0, fi1, fi2, fi3, nI_toInt, nI_add, pk_mul, nI_leI, nI_ltI, nI_eq, pk_sub, ib_nI, nI_clamp, va_up_self, va_up_ne, va_up_up, va_up_comm, pk_us, pk_un, upd_up, updL_up, pk_uLs, pk_uLn, b01_1, b01_0, b01_1s, b01_0s, or_b]
      exact this
  · by_cases k1 : cY c i = 1
    · have es : sLine c i D = sNote c i D := by unfold sLine; rw [if_neg k0, if_pos k1]
      rw [es] at hQ2 hE
      rw [k1] at h8
      have h8' : X 2 8 = nI 1 := h8
      simp (disch := omega) [w31_0, x31_1_2, w31_4, w31_48, w31_49, w31_50, x31_51, w31_54, w31_55, w31_56, w31_57, x31_58, w31_61, w31_62, w31_63, w31_64, x31_65, w31_68, w31_69, w31_70, x31_71, w31_74, w31_75, w31_76, x31_77, w31_80, w31_81, w31_82, w31_83, x31_84_4, w31_87, w31_88, w31_89, w31_90, x31_91_4, w31_94, w31_95, w31_96, x31_97_2, w31_100, rt31, aw_st, ai_cls, ai_len, ai_p, ai_sw, ai_m, ai_c, ai_at, ai_isI, ai_isJ, ai_isA, ai_ld, ai_1i, ai_2i, ai_2l, ai_cn, ai_j, ai_set, ai_set2, ai_nl, ai_rs, ai_sm, Value.category, hk0, hk1, lits, litb, litm, litm2, List.getElem?_cons_zero, List.getElem?_cons_succ, or_n0, bit_r, fi0, fi1, fi2, fi3, nI_toInt, nI_add, pk_mul, nI_leI, nI_ltI, nI_eq, pk_sub, ib_nI, nI_clamp, va_up_self, va_up_ne, va_up_up, va_up_comm, pk_us, pk_un, upd_up, updL_up, pk_uLs, pk_uLn, b01_1, b01_0, b01_1s, b01_0s, or_b, h8']
      rw [hX, hY]
      refine rNote_wp (D := D) h ok hi a1 a5 a3 a7 b10 (fun e j es f' g' r => ?_) (fun a b z i5 ha hb hz1 hz hi5 es f' g' r => ?_)
      · have := hE e j es f' g' r
        simp (disch := omega) [w31_0, x31_1_2, w31_4, w31_48, w31_49, w31_50, x31_51, w31_54, w31_55, w31_56, w31_57, x31_58, w31_61, w31_62, w31_63, w31_64, x31_65, w31_68, w31_69, w31_70, x31_71, w31_74, w31_75, w31_76, x31_77, w31_80, w31_81, w31_82, w31_83, x31_84_4, w31_87, w31_88, w31_89, w31_90, x31_91_4, w31_94, w31_95, w31_96, x31_97_2, w31_100, rt31, aw_st, ai_cls, ai_len, ai_p, ai_sw, ai_m, ai_c, ai_at, ai_isI, ai_isJ, ai_isA, ai_ld, ai_1i, ai_2i, ai_2l, ai_cn, ai_j, ai_set, ai_set2, ai_nl, ai_rs, ai_sm, Value.category, hk0, hk1, lits, litb, litm, litm2, List.getElem?_cons_zero, List.getElem?_cons_succ, or_n0, bit_r, fi0, fi1, fi2, fi3, nI_toInt, nI_add, pk_mul, nI_leI, nI_ltI, nI_eq, pk_sub, ib_nI, nI_clamp, va_up_self, va_up_ne, va_up_up, va_up_comm, pk_us, pk_un, upd_up, updL_up, pk_uLs, pk_uLn, b01_1, b01_0, b01_1s, b01_0s, or_b]
        exact this
      · have := hQ2 _ _ es hi5 _ (va_up Y 2 g') _ _ (DC_not (f' := f') (a := a) (b := b) (z := z) hD' ha hb hz) FR_not FY_2 (by simpa [notX, va_up] using r)
        simp (disch := omega) [w31_0, x31_1_2, w31_4, w31_48, w31_49, w31_50, x31_51, w31_54, w31_55, w31_56, w31_57, x31_58, w31_61, w31_62, w31_63, w31_64, x31_65, w31_68, w31_69, w31_70, x31_71, w31_74, w31_75, w31_76, x31_77, w31_80, w31_81, w31_82, w31_83, x31_84_4, w31_87, w31_88, w31_89, w31_90, x31_91_4, w31_94, w31_95, w31_96, x31_97_2, w31_100, rt31, aw_st, ai_cls, ai_len, ai_p, ai_sw, ai_m, ai_c, ai_at, ai_isI, ai_isJ, ai_isA, ai_ld, ai_1i, ai_2i, ai_2l, ai_cn, ai_j, ai_set, ai_set2, ai_nl, ai_rs, ai_sm, Value.category, hk0, hk1, lits, litb, litm, litm2, List.getElem?_cons_zero, List.getElem?_cons_succ, or_n0, bit_r, fi0, fi1, fi2, fi3, nI_toInt, nI_add, pk_mul, nI_leI, nI_ltI, nI_eq, pk_sub, ib_nI, nI_clamp, va_up_self, va_up_ne, va_up_up, va_up_comm, pk_us, pk_un, upd_up, updL_up, pk_uLs, pk_uLn, b01_1, b01_0, b01_1s, b01_0s, or_b]
        exact this
    · by_cases k2 : cY c i = 2
      · have es : sLine c i D = sStory c i D := by unfold sLine; rw [if_neg k0, if_neg k1, if_pos k2]
        rw [es] at hQ2 hE
        rw [k2] at h8
        have h8' : X 2 8 = nI 2 := h8
        simp (disch := omega) [w31_0, x31_1_2, w31_4, w31_48, w31_49, w31_50, x31_51, w31_54, w31_55, w31_56, w31_57, x31_58, w31_61, w31_62, w31_63, w31_64, x31_65, w31_68, w31_69, w31_70, x31_71, w31_74, w31_75, w31_76, x31_77, w31_80, w31_81, w31_82, w31_83, x31_84_4, w31_87, w31_88, w31_89, w31_90, x31_91_4, w31_94, w31_95, w31_96, x31_97_2, w31_100, rt31, aw_st, ai_cls, ai_len, ai_p, ai_sw, ai_m, ai_c, ai_at, ai_isI, ai_isJ, ai_isA, ai_ld, ai_1i, ai_2i, ai_2l, ai_cn, ai_j, ai_set, ai_set2, ai_nl, ai_rs, ai_sm, Value.category, hk0, hk1, lits, litb, litm, litm2, List.getElem?_cons_zero, List.getElem?_cons_succ, or_n0, bit_r, fi0, fi1, fi2, fi3, nI_toInt, nI_add, pk_mul, nI_leI, nI_ltI, nI_eq, pk_sub, ib_nI, nI_clamp, va_up_self, va_up_ne, va_up_up, va_up_comm, pk_us, pk_un, upd_up, updL_up, pk_uLs, pk_uLn, b01_1, b01_0, b01_1s, b01_0s, or_b, h8']
        rw [hX, hY]
        refine rStory_wp (D := D) h ok hi a1 a2 a5 a6 a3 a4 a7 (fun e j es f' g' r => ?_) (fun w a b z i5 hP hw ha hb hz hi5 es f' g' r => ?_)
        · have := hE e j es f' g' r
          simp (disch := omega) [w31_0, x31_1_2, w31_4, w31_48, w31_49, w31_50, x31_51, w31_54, w31_55, w31_56, w31_57, x31_58, w31_61, w31_62, w31_63, w31_64, x31_65, w31_68, w31_69, w31_70, x31_71, w31_74, w31_75, w31_76, x31_77, w31_80, w31_81, w31_82, w31_83, x31_84_4, w31_87, w31_88, w31_89, w31_90, x31_91_4, w31_94, w31_95, w31_96, x31_97_2, w31_100, rt31, aw_st, ai_cls, ai_len, ai_p, ai_sw, ai_m, ai_c, ai_at, ai_isI, ai_isJ, ai_isA, ai_ld, ai_1i, ai_2i, ai_2l, ai_cn, ai_j, ai_set, ai_set2, ai_nl, ai_rs, ai_sm, Value.category, hk0, hk1, lits, litb, litm, litm2, List.getElem?_cons_zero, List.getElem?_cons_succ, or_n0, bit_r, fi0, fi1, fi2, fi3, nI_toInt, nI_add, pk_mul, nI_leI, nI_ltI, nI_eq, pk_sub, ib_nI, nI_clamp, va_up_self, va_up_ne, va_up_up, va_up_comm, pk_us, pk_un, upd_up, updL_up, pk_uLs, pk_uLn, b01_1, b01_0, b01_1s, b01_0s, or_b]
          exact this
        · have := hQ2 _ _ es hi5 _ _ _ _ (DC_sto (f' := f') (g' := g') hD' hP hw ha hb hz) FR_sto FY_sto (by simpa [stoX, stoY, va_up] using r)
          simp (disch := omega) [w31_0, x31_1_2, w31_4, w31_48, w31_49, w31_50, x31_51, w31_54, w31_55, w31_56, w31_57, x31_58, w31_61, w31_62, w31_63, w31_64, x31_65, w31_68, w31_69, w31_70, x31_71, w31_74, w31_75, w31_76, x31_77, w31_80, w31_81, w31_82, w31_83, x31_84_4, w31_87, w31_88, w31_89, w31_90, x31_91_4, w31_94, w31_95, w31_96, x31_97_2, w31_100, rt31, aw_st, ai_cls, ai_len, ai_p, ai_sw, ai_m, ai_c, ai_at, ai_isI, ai_isJ, ai_isA, ai_ld, ai_1i, ai_2i, ai_2l, ai_cn, ai_j, ai_set, ai_set2, ai_nl, ai_rs, ai_sm, Value.category, hk0, hk1, lits, litb, litm, litm2, List.getElem?_cons_zero, List.getElem?_cons_succ, or_n0, bit_r, fi0, fi1, fi2, fi3, nI_toInt, nI_add, pk_mul, nI_leI, nI_ltI, nI_eq, pk_sub, ib_nI, nI_clamp, va_up_self, va_up_ne, va_up_up, va_up_comm, pk_us, pk_un, upd_up, updL_up, pk_uLs, pk_uLn, b01_1, b01_0, b01_1s, b01_0s, or_b]
          exact this
      · by_cases k3 : cY c i = 3
        · have es : sLine c i D = sMark c i 28 D := by unfold sLine; rw [if_neg k0, if_neg k1, if_neg k2, if_pos k3]
          rw [es] at hQ2 hE
          rw [k3] at h8
          have h8' : X 2 8 = nI 3 := h8
          simp (disch := omega) [w31_0, x31_1_2, w31_4, w31_48, w31_49, w31_50, x31_51, w31_54, w31_55, w31_56, w31_57, x31_58, w31_61, w31_62, w31_63, w31_64, x31_65, w31_68, w31_69, w31_70, x31_71, w31_74, w31_75, w31_76, x31_77, w31_80, w31_81, w31_82, w31_83, x31_84_4, w31_87, w31_88, w31_89, w31_90, x31_91_4, w31_94, w31_95, w31_96, x31_97_2, w31_100, rt31, aw_st, ai_cls, ai_len, ai_p, ai_sw, ai_m, ai_c, ai_at, ai_isI, ai_isJ, ai_isA, ai_ld, ai_1i, ai_2i, ai_2l, ai_cn, ai_j, ai_set, ai_set2, ai_nl, ai_rs, ai_sm, Value.category, hk0, hk1, lits, litb, litm, litm2, List.getElem?_cons_zero, List.getElem?_cons_succ, or_n0, bit_r, fi0, fi1, fi2, fi3, nI_toInt, nI_add, pk_mul, nI_leI, nI_ltI, nI_eq, pk_sub, ib_nI, nI_clamp, va_up_self, va_up_ne, va_up_up, va_up_comm, pk_us, pk_un, upd_up, updL_up, pk_uLs, pk_uLn, b01_1, b01_0, b01_1s, b01_0s, or_b, h8']
          rw [hX, hY]
          refine rFree_wp (D := D) h ok hi a1 a5 a3 a7 b1 (fun e j es f' g' r => ?_) (fun a i5 ha hi5 es f' g' r => ?_)
          · have := hE e j es f' g' r
            simp (disch := omega) [w31_0, x31_1_2, w31_4, w31_48, w31_49, w31_50, x31_51, w31_54, w31_55, w31_56, w31_57, x31_58, w31_61, w31_62, w31_63, w31_64, x31_65, w31_68, w31_69, w31_70, x31_71, w31_74, w31_75, w31_76, x31_77, w31_80, w31_81, w31_82, w31_83, x31_84_4, w31_87, w31_88, w31_89, w31_90, x31_91_4, w31_94, w31_95, w31_96, x31_97_2, w31_100, rt31, aw_st, ai_cls, ai_len, ai_p, ai_sw, ai_m, ai_c, ai_at, ai_isI, ai_isJ, ai_isA, ai_ld, ai_1i, ai_2i, ai_2l, ai_cn, ai_j, ai_set, ai_set2, ai_nl, ai_rs, ai_sm, Value.category, hk0, hk1, lits, litb, litm, litm2, List.getElem?_cons_zero, List.getElem?_cons_succ, or_n0, bit_r, fi0, fi1, fi2, fi3, nI_toInt, nI_add, pk_mul, nI_leI, nI_ltI, nI_eq, pk_sub, ib_nI, nI_clamp, va_up_self, va_up_ne, va_up_up, va_up_comm, pk_us, pk_un, upd_up, updL_up, pk_uLs, pk_uLn, b01_1, b01_0, b01_1s, b01_0s, or_b]
            exact this
          · have := hQ2 _ _ es hi5 _ (va_up Y 2 g') _ _ (DC_mar (f' := f') hD' ha (Or.inl ⟨rfl, rfl⟩)) FR_mar FY_2 (by simpa [marX, va_up] using r)
            simp (disch := omega) [w31_0, x31_1_2, w31_4, w31_48, w31_49, w31_50, x31_51, w31_54, w31_55, w31_56, w31_57, x31_58, w31_61, w31_62, w31_63, w31_64, x31_65, w31_68, w31_69, w31_70, x31_71, w31_74, w31_75, w31_76, x31_77, w31_80, w31_81, w31_82, w31_83, x31_84_4, w31_87, w31_88, w31_89, w31_90, x31_91_4, w31_94, w31_95, w31_96, x31_97_2, w31_100, rt31, aw_st, ai_cls, ai_len, ai_p, ai_sw, ai_m, ai_c, ai_at, ai_isI, ai_isJ, ai_isA, ai_ld, ai_1i, ai_2i, ai_2l, ai_cn, ai_j, ai_set, ai_set2, ai_nl, ai_rs, ai_sm, Value.category, hk0, hk1, lits, litb, litm, litm2, List.getElem?_cons_zero, List.getElem?_cons_succ, or_n0, bit_r, fi0, fi1, fi2, fi3, nI_toInt, nI_add, pk_mul, nI_leI, nI_ltI, nI_eq, pk_sub, ib_nI, nI_clamp, va_up_self, va_up_ne, va_up_up, va_up_comm, pk_us, pk_un, upd_up, updL_up, pk_uLs, pk_uLn, b01_1, b01_0, b01_1s, b01_0s, or_b]
            exact this
        · by_cases k4 : cY c i = 4
          · have es : sLine c i D = sMark c i 36 D := by unfold sLine; rw [if_neg k0, if_neg k1, if_neg k2, if_neg k3, if_pos k4]
            rw [es] at hQ2 hE
            rw [k4] at h8
            have h8' : X 2 8 = nI 4 := h8
            simp (disch := omega) [w31_0, x31_1_2, w31_4, w31_48, w31_49, w31_50, x31_51, w31_54, w31_55, w31_56, w31_57, x31_58, w31_61, w31_62, w31_63, w31_64, x31_65, w31_68, w31_69, w31_70, x31_71, w31_74, w31_75, w31_76, x31_77, w31_80, w31_81, w31_82, w31_83, x31_84_4, w31_87, w31_88, w31_89, w31_90, x31_91_4, w31_94, w31_95, w31_96, x31_97_2, w31_100, rt31, aw_st, ai_cls, ai_len, ai_p, ai_sw, ai_m, ai_c, ai_at, ai_isI, ai_isJ, ai_isA, ai_ld, ai_1i, ai_2i, ai_2l, ai_cn, ai_j, ai_set, ai_set2, ai_nl, ai_rs, ai_sm, Value.category, hk0, hk1, lits, litb, litm, litm2, List.getElem?_cons_zero, List.getElem?_cons_succ, or_n0, bit_r, fi0, fi1, fi2, fi3, nI_toInt, nI_add, pk_mul, nI_leI, nI_ltI, nI_eq, pk_sub, ib_nI, nI_clamp, va_up_self, va_up_ne, va_up_up, va_up_comm, pk_us, pk_un, upd_up, updL_up, pk_uLs, pk_uLn, b01_1, b01_0, b01_1s, b01_0s, or_b, h8']
            rw [hX, hY]
            refine rFake_wp (D := D) h ok hi a1 a5 a3 a7 b2 (fun e j es f' g' r => ?_) (fun a i5 ha hi5 es f' g' r => ?_)
            · have := hE e j es f' g' r
              simp (disch := omega) [w31_0, x31_1_2, w31_4, w31_48, w31_49, w31_50, x31_51, w31_54, w31_55, w31_56, w31_57, x31_58, w31_61, w31_62, w31_63, w31_64, x31_65, w31_68, w31_69, w31_70, x31_71, w31_74, w31_75, w31_76, x31_77, w31_80, w31_81, w31_82, w31_83, x31_84_4, w31_87, w31_88, w31_89, w31_90, x31_91_4, w31_94, w31_95, w31_96, x31_97_2, w31_100, rt31, aw_st, ai_cls, ai_len, ai_p, ai_sw, ai_m, ai_c, ai_at, ai_isI, ai_isJ, ai_isA, ai_ld, ai_1i, ai_2i, ai_2l, ai_cn, ai_j, ai_set, ai_set2, ai_nl, ai_rs, ai_sm, Value.category, hk0, hk1, lits, litb, litm, litm2, List.getElem?_cons_zero, List.getElem?_cons_succ, or_n0, bit_r, fi0, fi1, fi2, fi3, nI_toInt, nI_add, pk_mul, nI_leI, nI_ltI, nI_eq, pk_sub, ib_nI, nI_clamp, va_up_self, va_up_ne, va_up_up, va_up_comm, pk_us, pk_un, upd_up, updL_up, pk_uLs, pk_uLn, b01_1, b01_0, b01_1s, b01_0s, or_b]
              exact this
            · have := hQ2 _ _ es hi5 _ (va_up Y 2 g') _ _ (DC_mar (f' := f') hD' ha (Or.inr ⟨rfl, rfl⟩)) FR_mar FY_2 (by simpa [marX, va_up] using r)
              simp (disch := omega) [w31_0, x31_1_2, w31_4, w31_48, w31_49, w31_50, x31_51, w31_54, w31_55, w31_56, w31_57, x31_58, w31_61, w31_62, w31_63, w31_64, x31_65, w31_68, w31_69, w31_70, x31_71, w31_74, w31_75, w31_76, x31_77, w31_80, w31_81, w31_82, w31_83, x31_84_4, w31_87, w31_88, w31_89, w31_90, x31_91_4, w31_94, w31_95, w31_96, x31_97_2, w31_100, rt31, aw_st, ai_cls, ai_len, ai_p, ai_sw, ai_m, ai_c, ai_at, ai_isI, ai_isJ, ai_isA, ai_ld, ai_1i, ai_2i, ai_2l, ai_cn, ai_j, ai_set, ai_set2, ai_nl, ai_rs, ai_sm, Value.category, hk0, hk1, lits, litb, litm, litm2, List.getElem?_cons_zero, List.getElem?_cons_succ, or_n0, bit_r, fi0, fi1, fi2, fi3, nI_toInt, nI_add, pk_mul, nI_leI, nI_ltI, nI_eq, pk_sub, ib_nI, nI_clamp, va_up_self, va_up_ne, va_up_up, va_up_comm, pk_us, pk_un, upd_up, updL_up, pk_uLs, pk_uLn, b01_1, b01_0, b01_1s, b01_0s, or_b]
              exact this
          · by_cases k5 : cY c i = 5
            · have es : sLine c i D = sGift c i D := by unfold sLine; rw [if_neg k0, if_neg k1, if_neg k2, if_neg k3, if_neg k4, if_pos k5]
              rw [es] at hQ1 hQ2
              rw [k5] at h8
              have h8' : X 2 8 = nI 5 := h8
              simp (disch := omega) [w31_0, x31_1_2, w31_4, w31_48, w31_49, w31_50, x31_51, w31_54, w31_55, w31_56, w31_57, x31_58, w31_61, w31_62, w31_63, w31_64, x31_65, w31_68, w31_69, w31_70, x31_71, w31_74, w31_75, w31_76, x31_77, w31_80, w31_81, w31_82, w31_83, x31_84_4, w31_87, w31_88, w31_89, w31_90, x31_91_4, w31_94, w31_95, w31_96, x31_97_2, w31_100, rt31, aw_st, ai_cls, ai_len, ai_p, ai_sw, ai_m, ai_c, ai_at, ai_isI, ai_isJ, ai_isA, ai_ld, ai_1i, ai_2i, ai_2l, ai_cn, ai_j, ai_set, ai_set2, ai_nl, ai_rs, ai_sm, Value.category, hk0, hk1, lits, litb, litm, litm2, List.getElem?_cons_zero, List.getElem?_cons_succ, or_n0, bit_r, fi0, fi1, fi2, fi3, nI_toInt, nI_add, pk_mul, nI_leI, nI_ltI, nI_eq, pk_sub, ib_nI, nI_clamp, va_up_self, va_up_ne, va_up_up, va_up_comm, pk_us, pk_un, upd_up, updL_up, pk_uLs, pk_uLn, b01_1, b01_0, b01_1s, b01_0s, or_b, h8']
              rw [hX, hY]
              refine rGift_wp (D := D) h ok hi a10 (fun e j es h4 f' g' r => ?_) (fun a i5 ha hi5 es f' g' r => ?_)
              · have := hQ1 e j es _ (va_up Y 2 g') (FR_24 (f := f') (h4 := h4)) FY_2 (by simpa [va_up] using r)
                simp (disch := omega) [w31_0, x31_1_2, w31_4, w31_48, w31_49, w31_50, x31_51, w31_54, w31_55, w31_56, w31_57, x31_58, w31_61, w31_62, w31_63, w31_64, x31_65, w31_68, w31_69, w31_70, x31_71, w31_74, w31_75, w31_76, x31_77, w31_80, w31_81, w31_82, w31_83, x31_84_4, w31_87, w31_88, w31_89, w31_90, x31_91_4, w31_94, w31_95, w31_96, x31_97_2, w31_100, rt31, aw_st, ai_cls, ai_len, ai_p, ai_sw, ai_m, ai_c, ai_at, ai_isI, ai_isJ, ai_isA, ai_ld, ai_1i, ai_2i, ai_2l, ai_cn, ai_j, ai_set, ai_set2, ai_nl, ai_rs, ai_sm, Value.category, hk0, hk1, lits, litb, litm, litm2, List.getElem?_cons_zero, List.getElem?_cons_succ, or_n0, bit_r, fi0, fi1, fi2, fi3, nI_toInt, nI_add, pk_mul, nI_leI, nI_ltI, nI_eq, pk_sub, ib_nI, nI_clamp, va_up_self, va_up_ne, va_up_up, va_up_comm, pk_us, pk_un, upd_up, updL_up, pk_uLs, pk_uLn, b01_1, b01_0, b01_1s, b01_0s, or_b]
                exact this
              · have := hQ2 _ _ es hi5 _ (va_up Y 2 g') _ _ (DC_gif (f' := f') hD' ha) FR_gif FY_2 (by simpa [gifX, va_up] using r)
                simp (disch := omega) [w31_0, x31_1_2, w31_4, w31_48, w31_49, w31_50, x31_51, w31_54, w31_55, w31_56, w31_57, x31_58, w31_61, w31_62, w31_63, w31_64, x31_65, w31_68, w31_69, w31_70, x31_71, w31_74, w31_75, w31_76, x31_77, w31_80, w31_81, w31_82, w31_83, x31_84_4, w31_87, w31_88, w31_89, w31_90, x31_91_4, w31_94, w31_95, w31_96, x31_97_2, w31_100, rt31, aw_st, ai_cls, ai_len, ai_p, ai_sw, ai_m, ai_c, ai_at, ai_isI, ai_isJ, ai_isA, ai_ld, ai_1i, ai_2i, ai_2l, ai_cn, ai_j, ai_set, ai_set2, ai_nl, ai_rs, ai_sm, Value.category, hk0, hk1, lits, litb, litm, litm2, List.getElem?_cons_zero, List.getElem?_cons_succ, or_n0, bit_r, fi0, fi1, fi2, fi3, nI_toInt, nI_add, pk_mul, nI_leI, nI_ltI, nI_eq, pk_sub, ib_nI, nI_clamp, va_up_self, va_up_ne, va_up_up, va_up_comm, pk_us, pk_un, upd_up, updL_up, pk_uLs, pk_uLn, b01_1, b01_0, b01_1s, b01_0s, or_b]
                exact this
            · by_cases k6 : cY c i = 6
              · have es : sLine c i D = sRuin c i D := by unfold sLine; rw [if_neg k0, if_neg k1, if_neg k2, if_neg k3, if_neg k4, if_neg k5, if_pos k6]
                rw [es] at hQ1 hQ2
                rw [k6] at h8
                have h8' : X 2 8 = nI 6 := h8
                simp (disch := omega) [w31_0, x31_1_2, w31_4, w31_48, w31_49, w31_50, x31_51, w31_54, w31_55, w31_56, w31_57, x31_58, w31_61, w31_62, w31_63, w31_64, x31_65, w31_68, w31_69, w31_70, x31_71, w31_74, w31_75, w31_76, x31_77, w31_80, w31_81, w31_82, w31_83, x31_84_4, w31_87, w31_88, w31_89, w31_90, x31_91_4, w31_94, w31_95, w31_96, x31_97_2, w31_100, rt31, aw_st, ai_cls, ai_len, ai_p, ai_sw, ai_m, ai_c, ai_at, ai_isI, ai_isJ, ai_isA, ai_ld, ai_1i, ai_2i, ai_2l, ai_cn, ai_j, ai_set, ai_set2, ai_nl, ai_rs, ai_sm, Value.category, hk0, hk1, lits, litb, litm, litm2, List.getElem?_cons_zero, List.getElem?_cons_succ, or_n0, bit_r, fi0, fi1, fi2, fi3, nI_toInt, nI_add, pk_mul, nI_leI, nI_ltI, nI_eq, pk_sub, ib_nI, nI_clamp, va_up_self, va_up_ne, va_up_up, va_up_comm, pk_us, pk_un, upd_up, updL_up, pk_uLs, pk_uLn, b01_1, b01_0, b01_1s, b01_0s, or_b, h8']
                rw [hX, hY]
                refine rRuin_wp (D := D) h ok hi a11 (fun e j es h4 f' g' r => ?_) (fun a i5 ha1 ha hi5 es f' g' r => ?_)
                · have := hQ1 e j es _ (va_up Y 2 g') (FR_24 (f := f') (h4 := h4)) FY_2 (by simpa [va_up] using r)
                  simp (disch := omega) [w31_0, x31_1_2, w31_4, w31_48, w31_49, w31_50, x31_51, w31_54, w31_55, w31_56, w31_57, x31_58, w31_61, w31_62, w31_63, w31_64, x31_65, w31_68, w31_69, w31_70, x31_71, w31_74, w31_75, w31_76, x31_77, w31_80, w31_81, w31_82, w31_83, x31_84_4, w31_87, w31_88, w31_89, w31_90, x31_91_4, w31_94, w31_95, w31_96, x31_97_2, w31_100, rt31, aw_st, ai_cls, ai_len, ai_p, ai_sw, ai_m, ai_c, ai_at, ai_isI, ai_isJ, ai_isA, ai_ld, ai_1i, ai_2i, ai_2l, ai_cn, ai_j, ai_set, ai_set2, ai_nl, ai_rs, ai_sm, Value.category, hk0, hk1, lits, litb, litm, litm2, List.getElem?_cons_zero, List.getElem?_cons_succ, or_n0, bit_r, fi0, fi1, fi2, fi3, nI_toInt, nI_add, pk_mul, nI_leI, nI_ltI, nI_eq, pk_sub, ib_nI, nI_clamp, va_up_self, va_up_ne, va_up_up, va_up_comm, pk_us, pk_un, upd_up, updL_up, pk_uLs, pk_uLn, b01_1, b01_0, b01_1s, b01_0s, or_b]
                  exact this
                · have := hQ2 _ _ es hi5 _ (va_up Y 2 g') _ _ (DC_rui (f' := f') hD' ha1 ha) FR_gif FY_2 (by simpa [gifX, va_up] using r)
                  simp (disch := omega) [w31_0, x31_1_2, w31_4, w31_48, w31_49, w31_50, x31_51, w31_54, w31_55, w31_56, w31_57, x31_58, w31_61, w31_62, w31_63, w31_64, x31_65, w31_68, w31_69, w31_70, x31_71, w31_74, w31_75, w31_76, x31_77, w31_80, w31_81, w31_82, w31_83, x31_84_4, w31_87, w31_88, w31_89, w31_90, x31_91_4, w31_94, w31_95, w31_96, x31_97_2, w31_100, rt31, aw_st, ai_cls, ai_len, ai_p, ai_sw, ai_m, ai_c, ai_at, ai_isI, ai_isJ, ai_isA, ai_ld, ai_1i, ai_2i, ai_2l, ai_cn, ai_j, ai_set, ai_set2, ai_nl, ai_rs, ai_sm, Value.category, hk0, hk1, lits, litb, litm, litm2, List.getElem?_cons_zero, List.getElem?_cons_succ, or_n0, bit_r, fi0, fi1, fi2, fi3, nI_toInt, nI_add, pk_mul, nI_leI, nI_ltI, nI_eq, pk_sub, ib_nI, nI_clamp, va_up_self, va_up_ne, va_up_up, va_up_comm, pk_us, pk_un, upd_up, updL_up, pk_uLs, pk_uLn, b01_1, b01_0, b01_1s, b01_0s, or_b]
                  exact this
              · have es : sLine c i D = .inl (1, i) := by unfold sLine; rw [if_neg k0, if_neg k1, if_neg k2, if_neg k3, if_neg k4, if_neg k5, if_neg k6]
                have ho := yI_out (j := cY c i) (by omega) hy
                rw [← h8] at ho
                have := hE 1 i es _ _ (RDc_flt h (nI 1))
                have hrf : ∀ (Q : List Value → Nat → Nat → ai_M → Prop), aw ET G (d + 4) 33 0 [some (.ref 2), some (.int (nI 1))] [] 231 sl (mem X Y) Q = Q [.int (nI 0)] 231 sl (mem (va_up X 2 (upd (X 2) 9 (nI 1))) Y) := fun Q => by
                  have := refused_eq (G := G) (d := d + 4) (sl := sl) (Q := Q) (X := X) (Y := Y) (f := X 2) (x := nI 1)
                  rw [va_id] at this
                  exact this
                rw [va_id] at this
                simp (disch := omega) [w31_0, x31_1_2, w31_4, w31_48, w31_49, w31_50, x31_51, w31_54, w31_55, w31_56, w31_57, x31_58, w31_61, w31_62, w31_63, w31_64, x31_65, w31_68, w31_69, w31_70, x31_71, w31_74, w31_75, w31_76, x31_77, w31_80, w31_81, w31_82, w31_83, x31_84_4, w31_87, w31_88, w31_89, w31_90, x31_91_4, w31_94, w31_95, w31_96, x31_97_2, w31_100, rt31, aw_st, ai_cls, ai_len, ai_p, ai_sw, ai_m, ai_c, ai_at, ai_isI, ai_isJ, ai_isA, ai_ld, ai_1i, ai_2i, ai_2l, ai_cn, ai_j, ai_set, ai_set2, ai_nl, ai_rs, ai_sm, Value.category, hk0, hk1, lits, litb, litm, litm2, List.getElem?_cons_zero, List.getElem?_cons_succ, or_n0, bit_r, fi0, fi1, fi2, fi3, nI_toInt, nI_add, pk_mul, nI_leI, nI_ltI, nI_eq, pk_sub, ib_nI, nI_clamp, va_up_self, va_up_ne, va_up_up, va_up_comm, pk_us, pk_un, upd_up, updL_up, pk_uLs, pk_uLn, b01_1, b01_0, b01_1s, b01_0s, or_b, ho, hrf]
                exact this
set_option maxHeartbeats 8000000 in
theorem rTown_loop : ∀ (r m i : Nat) (D : TD) (X : mX) (Y : mY) (P S : Nat), m + r = 941 → RDC c i (X 2) (Y 2) (nI 0) → OKc c X → i ≤ c.2.1 → DC X Y D P S → (∀ e j, sTown c r i m D = .inl (e, j) → ∀ X' Y', FR X X' → FY Y Y' → RDC c j (X' 2) (Y' 2) (nI e) → Q [.int mi1] 231 sl (mem X' Y')) → (∀ m' D', sTown c r i m D = .inr (m', D') → m' < 1000 → ∀ X' Y' P' S', DC X' Y' D' P' S' → FR X X' → FY Y Y' → X' 2 9 = nI 0 → Q [.int (nI m')] 231 sl (mem X' Y')) → aw ET G (d + 6) 30 12 [some (.ref 4), some (.ref 2), some (.ref 5), some (.int (nI m))] [] 231 sl (mem X Y) Q := by
  intro r
  induction r with
  | zero =>
    intro m i D X Y P S hm h ok hi hD hQ1 hQ2
    have : m = 941 := by omega
    subst this
    have := hQ1 1 i rfl (va_up X 2 (upd (X 2) 9 (nI 1))) Y FR_2 (FY_refl Y) (by rw [va_up_self]; exact RDc_flt h (nI 1))
    have hrf : ∀ (Q : List Value → Nat → Nat → ai_M → Prop), aw ET G (d + 5) 39 0 [some (.ref 2), some (.int (nI 1))] [] 231 sl (mem X Y) Q = Q [.int mi1] 231 sl (mem (va_up X 2 (upd (X 2) 9 (nI 1))) Y) := fun Q => by
      have := refuse_eq (G := G) (d := d + 5) (sl := sl) (Q := Q) (X := X) (Y := Y) (f := X 2) (x := nI 1)
      rw [va_id] at this
      exact this
    simp (disch := omega) [w30_0, w30_1, x30_2 (v := nI 0) (Or.inl rfl), x30_2 (v := nI 1) (Or.inr rfl), w30_5, w30_6, x30_7 (v := nI 0) (Or.inl rfl), x30_7 (v := nI 1) (Or.inr rfl), w30_10, w30_11, w30_12, w30_13, w30_16, w30_19, x30_20_2, w30_23, w30_26, w30_27, w30_28, w30_29, w30_30, x30_31_5, w30_34, x30_35_5, x30_38_4, w30_41, w30_44, w30_45, x30_47_2, w30_50, w30_53, w30_54, w30_55, w30_58, w30_61, w30_62, x30_63_2, w30_66, rt30, aw_st, ai_cls, ai_len, ai_p, ai_sw, ai_m, ai_c, ai_at, ai_isI, ai_isJ, ai_isA, ai_ld, ai_1i, ai_2i, ai_2l, ai_cn, ai_j, ai_set, ai_set2, ai_nl, ai_rs, ai_sm, Value.category, hk0, hk1, lits, litb, litm, litm2, List.getElem?_cons_zero, List.getElem?_cons_succ, or_n0, bit_r, fi0, fi1, fi2, fi3, nI_toInt, nI_add, pk_mul, nI_leI, nI_ltI, nI_eq, pk_sub, ib_nI, nI_clamp, va_up_self, va_up_ne, va_up_up, va_up_comm, pk_us, pk_un, upd_up, updL_up, pk_uLs, pk_uLn, b01_1, b01_0, b01_1s, b01_0s, or_b, hrf]
    exact this
  | succ r ih =>
    intro m i D X Y P S hm h ok hi hD hQ1 hQ2
    have h4 : X 2 4 = nI (cK c i) := h.2.2.2.2.1
    have hk : cK c i < 256 := tK_lt ok.1 ok.2.1 hi
    rw [w30_12]
    by_cases e0 : cK c i = 0
    · have := hQ2 m D (by unfold sTown; rw [if_pos e0]) (by omega) X Y P S hD (FR_refl X) (FY_refl Y) h.2.2.2.2.2.2.2.1
      simp (disch := omega) [w30_0, w30_1, x30_2 (v := nI 0) (Or.inl rfl), x30_2 (v := nI 1) (Or.inr rfl), w30_5, w30_6, x30_7 (v := nI 0) (Or.inl rfl), x30_7 (v := nI 1) (Or.inr rfl), w30_10, w30_11, w30_13, w30_16, w30_19, x30_20_2, w30_23, w30_26, w30_27, w30_28, w30_29, w30_30, x30_31_5, w30_34, x30_35_5, x30_38_4, w30_41, w30_44, w30_45, x30_47_2, w30_50, w30_53, w30_54, w30_55, w30_58, w30_61, w30_62, x30_63_2, w30_66, rt30, aw_st, ai_cls, ai_len, ai_p, ai_sw, ai_m, ai_c, ai_at, ai_isI, ai_isJ, ai_isA, ai_ld, ai_1i, ai_2i, ai_2l, ai_cn, ai_j, ai_set, ai_set2, ai_nl, ai_rs, ai_sm, Value.category, hk0, hk1, lits, litb, litm, litm2, List.getElem?_cons_zero, List.getElem?_cons_succ, or_n0, bit_r, fi0, fi1, fi2, fi3, nI_toInt, nI_add, pk_mul, nI_leI, nI_ltI, nI_eq, pk_sub, ib_nI, nI_clamp, va_up_self, va_up_ne, va_up_up, va_up_comm, pk_us, pk_un, upd_up, updL_up, pk_uLs, pk_uLn, b01_1, b01_0, b01_1s, b01_0s, or_b, h4, e0, show ¬ 940 < m by omega]
      exact this
    · have es : sTown c (r + 1) i m D = match sLine c i D with
        | .inl e => .inl e
        | .inr (i2, D2) => if ¬ cK c i2 = 59 then .inl (1, i2) else sTown c r (cA c i2) (m + 1) D2 := by
        rw [sTown, if_neg e0]
        cases sLine c i D <;> rfl
      simp (disch := omega) [w30_0, w30_1, x30_2 (v := nI 0) (Or.inl rfl), x30_2 (v := nI 1) (Or.inr rfl), w30_5, w30_6, x30_7 (v := nI 0) (Or.inl rfl), x30_7 (v := nI 1) (Or.inr rfl), w30_10, w30_11, w30_13, w30_16, w30_19, x30_20_2, w30_23, w30_26, w30_27, w30_28, w30_29, w30_30, x30_31_5, w30_34, x30_35_5, x30_38_4, w30_41, w30_44, w30_45, x30_47_2, w30_50, w30_53, w30_54, w30_55, w30_58, w30_61, w30_62, x30_63_2, w30_66, rt30, aw_st, ai_cls, ai_len, ai_p, ai_sw, ai_m, ai_c, ai_at, ai_isI, ai_isJ, ai_isA, ai_ld, ai_1i, ai_2i, ai_2l, ai_cn, ai_j, ai_set, ai_set2, ai_nl, ai_rs, ai_sm, Value.category, hk0, hk1, lits, litb, litm, litm2, List.getElem?_cons_zero, List.getElem?_cons_succ, or_n0, bit_r, fi0, fi1, fi2, fi3, nI_toInt, nI_add, pk_mul, nI_leI, nI_ltI, nI_eq, pk_sub, ib_nI, nI_clamp, va_up_self, va_up_ne, va_up_up, va_up_comm, pk_us, pk_un, upd_up, updL_up, pk_uLs, pk_uLn, b01_1, b01_0, b01_1s, b01_0s, or_b, h4, e0, show ¬ 940 < m by omega]
      refine rLine_wp h ok hi hD (fun e j el X1 Y1 f1 g1 r1 => ?_) (fun i2 D2 el hi2 X1 Y1 P1 S1 hD1 f1 g1 r1 => ?_)
      · have := hQ1 e j (by rw [es, el]) X1 Y1 f1 g1 r1
        simp (disch := omega) [w30_0, w30_1, x30_2 (v := nI 0) (Or.inl rfl), x30_2 (v := nI 1) (Or.inr rfl), w30_5, w30_6, x30_7 (v := nI 0) (Or.inl rfl), x30_7 (v := nI 1) (Or.inr rfl), w30_10, w30_11, w30_13, w30_16, w30_19, x30_20_2, w30_23, w30_26, w30_27, w30_28, w30_29, w30_30, x30_31_5, w30_34, x30_35_5, x30_38_4, w30_41, w30_44, w30_45, x30_47_2, w30_50, w30_53, w30_54, w30_55, w30_58, w30_61, w30_62, x30_63_2, w30_66, rt30, aw_st, ai_cls, ai_len, ai_p, ai_sw, ai_m, ai_c, ai_at, ai_isI, ai_isJ, ai_isA, ai_ld, ai_1i, ai_2i, ai_2l, ai_cn, ai_j, ai_set, ai_set2, ai_nl, ai_rs, ai_sm, Value.category, hk0, hk1, lits, litb, litm, litm2, List.getElem?_cons_zero, List.getElem?_cons_succ, or_n0, bit_r, fi0, fi1, fi2, fi3, nI_toInt, nI_add, pk_mul, nI_leI, nI_ltI, nI_eq, pk_sub, ib_nI, nI_clamp, va_up_self, va_up_ne, va_up_up, va_up_comm, pk_us, pk_un, upd_up, updL_up, pk_uLs, pk_uLn, b01_1, b01_0, b01_1s, b01_0s, or_b]
        exact this
      · simp (disch := omega) [w30_0, w30_1, x30_2 (v := nI 0) (Or.inl rfl), x30_2 (v := nI 1) (Or.inr rfl), w30_5, w30_6, x30_7 (v := nI 0) (Or.inl rfl), x30_7 (v := nI 1) (Or.inr rfl), w30_10, w30_11, w30_13, w30_16, w30_19, x30_20_2, w30_23, w30_26, w30_27, w30_28, w30_29, w30_30, x30_31_5, w30_34, x30_35_5, x30_38_4, w30_41, w30_44, w30_45, x30_47_2, w30_50, w30_53, w30_54, w30_55, w30_58, w30_61, w30_62, x30_63_2, w30_66, rt30, aw_st, ai_cls, ai_len, ai_p, ai_sw, ai_m, ai_c, ai_at, ai_isI, ai_isJ, ai_isA, ai_ld, ai_1i, ai_2i, ai_2l, ai_cn, ai_j, ai_set, ai_set2, ai_nl, ai_rs, ai_sm, Value.category, hk0, hk1, lits, litb, litm, litm2, List.getElem?_cons_zero, List.getElem?_cons_succ, or_n0, bit_r, fi0, fi1, fi2, fi3, nI_toInt, nI_add, pk_mul, nI_leI, nI_ltI, nI_eq, pk_sub, ib_nI, nI_clamp, va_up_self, va_up_ne, va_up_up, va_up_comm, pk_us, pk_un, upd_up, updL_up, pk_uLs, pk_uLn, b01_1, b01_0, b01_1s, b01_0s, or_b]
        have ok1 := OKc_fr ok f1
        have htk : ∀ (Q : List Value → Nat → Nat → ai_M → Prop), (¬ cK c i2 = 59 → ∀ f', RDC c i2 f' (Y1 2) (nI 1) → Q [.int (nI 0)] 231 sl (mem (va_up X1 2 f') (va_up Y1 2 (Y1 2)))) → (cK c i2 = 59 → ∀ f' g', RDC c (cA c i2) f' g' (nI 0) → Q [.int (nI 1)] 231 sl (mem (va_up X1 2 f') (va_up Y1 2 g'))) → aw ET G (d + 5) 50 0 [some (.ref 2), some (.int (nI 59))] [] 231 sl (mem X1 Y1) Q := by
          intro Q q1 q2
          have := take_wp (G := G) (d := d + 2) (sl := sl) (Q := Q) (X := X1) (Y := Y1) (f := X1 2) (g := Y1 2) (c := 59) r1 ok1.1 ok1.2.1 ok1.2.2 hi2 (by omega) q1 q2
          rw [va_id, va_id] at this
          exact this
        refine htk _ (fun q f' r2 => ?_) (fun q f' g' r2 => ?_)
        · have := hQ1 1 i2 (by rw [es, el]; simp only [q, not_false_eq_true, if_true]) _ _ (f1.tr FR_2) (g1.tr FY_2) (by rw [va_up_self, va_up_self]; exact r2)
          simp (disch := omega) [w30_0, w30_1, x30_2 (v := nI 0) (Or.inl rfl), x30_2 (v := nI 1) (Or.inr rfl), w30_5, w30_6, x30_7 (v := nI 0) (Or.inl rfl), x30_7 (v := nI 1) (Or.inr rfl), w30_10, w30_11, w30_13, w30_16, w30_19, x30_20_2, w30_23, w30_26, w30_27, w30_28, w30_29, w30_30, x30_31_5, w30_34, x30_35_5, x30_38_4, w30_41, w30_44, w30_45, x30_47_2, w30_50, w30_53, w30_54, w30_55, w30_58, w30_61, w30_62, x30_63_2, w30_66, rt30, aw_st, ai_cls, ai_len, ai_p, ai_sw, ai_m, ai_c, ai_at, ai_isI, ai_isJ, ai_isA, ai_ld, ai_1i, ai_2i, ai_2l, ai_cn, ai_j, ai_set, ai_set2, ai_nl, ai_rs, ai_sm, Value.category, hk0, hk1, lits, litb, litm, litm2, List.getElem?_cons_zero, List.getElem?_cons_succ, or_n0, bit_r, fi0, fi1, fi2, fi3, nI_toInt, nI_add, pk_mul, nI_leI, nI_ltI, nI_eq, pk_sub, ib_nI, nI_clamp, va_up_self, va_up_ne, va_up_up, va_up_comm, pk_us, pk_un, upd_up, updL_up, pk_uLs, pk_uLn, b01_1, b01_0, b01_1s, b01_0s, or_b]
          exact this
        · have e2 : sTown c (r + 1) i m D = sTown c r (cA c i2) (m + 1) D2 := by rw [es, el]; simp only [q, not_true, if_false]
          rw [e2] at hQ1 hQ2
          have := ih (m + 1) (cA c i2) D2 (va_up X1 2 f') (va_up Y1 2 g') P1 S1 (by omega) (by rw [va_up_self, va_up_self]; exact r2) (OKc_fr ok1 FR_2) (cA_le hi2) (DC_fg hD1) (fun e j el X' Y' f2 g2 r3 => hQ1 e j el X' Y' ((f1.tr FR_2).tr f2) ((g1.tr FY_2).tr g2) r3) (fun m' D' el hm' X' Y' P' S' hD' f2 g2 r3 => hQ2 m' D' el hm' X' Y' P' S' hD' ((f1.tr FR_2).tr f2) ((g1.tr FY_2).tr g2) r3)
          simp (disch := omega) [w30_0, w30_1, x30_2 (v := nI 0) (Or.inl rfl), x30_2 (v := nI 1) (Or.inr rfl), w30_5, w30_6, x30_7 (v := nI 0) (Or.inl rfl), x30_7 (v := nI 1) (Or.inr rfl), w30_10, w30_11, w30_13, w30_16, w30_19, x30_20_2, w30_23, w30_26, w30_27, w30_28, w30_29, w30_30, x30_31_5, w30_34, x30_35_5, x30_38_4, w30_41, w30_44, w30_45, x30_47_2, w30_50, w30_53, w30_54, w30_55, w30_58, w30_61, w30_62, x30_63_2, w30_66, rt30, aw_st, ai_cls, ai_len, ai_p, ai_sw, ai_m, ai_c, ai_at, ai_isI, ai_isJ, ai_isA, ai_ld, ai_1i, ai_2i, ai_2l, ai_cn, ai_j, ai_set, ai_set2, ai_nl, ai_rs, ai_sm, Value.category, hk0, hk1, lits, litb, litm, litm2, List.getElem?_cons_zero, List.getElem?_cons_succ, or_n0, bit_r, fi0, fi1, fi2, fi3, nI_toInt, nI_add, pk_mul, nI_leI, nI_ltI, nI_eq, pk_sub, ib_nI, nI_clamp, va_up_self, va_up_ne, va_up_up, va_up_comm, pk_us, pk_un, upd_up, updL_up, pk_uLs, pk_uLn, b01_1, b01_0, b01_1s, b01_0s, or_b]
          exact this
end TWQ
