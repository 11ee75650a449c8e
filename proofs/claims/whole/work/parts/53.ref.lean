/-! THE REFERENCE, IV: days, what is kept -/
section RFD
variable {G : ai_G} {d n sl : Nat} {Y : mY} {Q : List Value → Nat → Nat → ai_M → Prop} {l k : Nat → Nat → Int32} {P S : Nat}
theorem rs3_eq {l l' : Nat → Nat → Int32} (h : l' 3 = l 3) : rsum (l' 3) 0 8 0 = rsum (l 3) 0 8 0 := by rw [h]
theorem dayS3 (p : Nat) : dayS l k p 3 = l 3 := by unfold dayS dayA; split <;> simp [vf_upd]
set_option maxHeartbeats 8000000 in
set_option maxRecDepth 20000 in
theorem day_loop : ∀ (r p : Nat) (X : mX) (l : Nat → Nat → Int32), p + r = P → LSx (X 201) l → KS (X 201) k P S → (∀ s', LSx s' (dayR k p r l) → (∀ i, i < 132 ∨ 257 ≤ i → s' i = X 201 i) → Q [] 231 sl (mem (va_up X 201 s') Y)) → aw ET G (d + 2) 230 2 [some (.ref 199), some (.int (nI p))] [] 231 sl (mem X Y) Q := by
  intro r
  induction r with
  | zero =>
    intro p X l hp h hk hQ
    have k1 := hk.2.2.2.2.1
    have hP := hk.1
    have a1 := h.1.1
    simp (disch := omega) [w230_0, w230_1, w230_2, w230_3, x230_4, w230_7, w230_8, w230_9, w230_12, w230_13, x230_14, w230_17, w230_20, x230_21, w230_24, w230_27, w230_28, w230_29, w230_30, w230_31, x230_32, w230_35, w230_38, w230_39, w230_40, x230_41, w230_44, w230_46, w230_47, w230_48, w230_49, w230_50, x230_51, w230_54, w230_57, w230_58, w230_59, w230_62, x230_63, w230_66, w230_69, w230_70, w230_71, w230_72, x230_73, w230_76, w230_78, w230_79, w230_80, w230_81, x230_82, w230_85, w230_86, w230_89, w230_92, x230_93, w230_96, w230_99, w230_100, w230_101, w230_102, w230_103, w230_104, rt230, aw_st, ai_cls, ai_len, ai_p, ai_sw, ai_m, ai_c, ai_at, ai_isI, ai_isJ, ai_isA, ai_ld, ai_1i, ai_2i, ai_2l, ai_cn, ai_j, ai_set, ai_set2, ai_nl, ai_rs, ai_sm, Value.category, hk0, hk1, lits, litb, litm, litm2, or_n0, bit_r, fi0, fi1, fi2, fi3, nI_add, pk_mul, nI_leI, nI_ltI, nI_eq, pk_sub, ib_nI, nI_clamp, va_up_self, va_up_ne, va_up_up, va_up_comm, pk_us, pk_un, upd_up, updL_up, pk_uLs, pk_uLn, b01_1, b01_0, b01_1s, b01_0s, or_b, mm200, mu200, mm201, mu201, mm202, mu202, mm203, mu203, mm204, mu204, mm205, mu205, mm206, mu206, mm207, mu207, mm208, mu208, mm209, mu209, mm210, mu210, mm211, mu211, mm212, mu212, mm213, mu213, mm214, mu214, mm215, mu215, mm216, mu216, mm217, mu217, mm218, mu218, mm219, mu219, mm220, mu220, mm221, mu221, mm222, mu222, mm223, mu223, mm224, mu224, mm225, mu225, mm226, mu226, mm227, mu227, mm228, mu228, mm229, mu229, mm230, mu230, k1, a1, show P ≤ p by omega]
    apply hQ
    · refine ⟨LSb.cg (LSb_u10 h.1 _) (fun j => ?_), ?_⟩
      · simp [dayR, vf_upd, show (1 : Int32) = nI 1 from rfl]
      · simp (disch := omega) [dayR, vf_upd, pk_un, h.2]
    · intro i hi
      simp (disch := omega) [pk_un]
  | succ r ih =>
    intro p X l hp h hk hQ
    have hkk := hk
    have hh := h
    obtain ⟨⟨a1, a2, a3, a4, a5, a6, a7, a8, a9, a10, a11, a12⟩, a13⟩ := h
    obtain ⟨hP, hS, kP, kS, k1, k2, k3, k4, k5, k6, k7, k8, k9, k10, k11⟩ := hk
    have hf : ∀ Q : List Value → Nat → Nat → ai_M → Prop, aw ET G (d + 1) 231 0 [some (.ref 199), some (.int (nI p))] [] 231 sl (mem X Y) Q = Q [.int (b01 (k 12 0 * k 1 p < rsum (l 5) (p * 8) 8 0))] 231 sl (mem X Y) := fun Q => isTooMuch_eq hh.1 hkk (by omega)
    rw [w230_2]
    by_cases hy : k 12 0 * k 1 p < rsum (l 5) (p * 8) 8 0
    · have hy' : k 12 0 * k 1 p < rsum (l 5) (p * 8) 8 (nI 0) := hy
      simp (disch := omega) [w230_0, w230_1, w230_3, x230_4, w230_7, w230_8, w230_9, w230_12, w230_13, x230_14, w230_17, w230_20, x230_21, w230_24, w230_27, w230_28, w230_29, w230_30, w230_31, x230_32, w230_35, w230_38, w230_39, w230_40, x230_41, w230_44, w230_46, w230_47, w230_48, w230_49, w230_50, x230_51, w230_54, w230_57, w230_58, w230_59, w230_62, x230_63, w230_66, w230_69, w230_70, w230_71, w230_72, x230_73, w230_76, w230_78, w230_79, w230_80, w230_81, x230_82, w230_85, w230_86, w230_89, w230_92, x230_93, w230_96, w230_99, w230_100, w230_101, w230_102, w230_103, w230_104, rt230, aw_st, ai_cls, ai_len, ai_p, ai_sw, ai_m, ai_c, ai_at, ai_isI, ai_isJ, ai_isA, ai_ld, ai_1i, ai_2i, ai_2l, ai_cn, ai_j, ai_set, ai_set2, ai_nl, ai_rs, ai_sm, Value.category, hk0, hk1, lits, litb, litm, litm2, or_n0, bit_r, fi0, fi1, fi2, fi3, nI_add, pk_mul, nI_leI, nI_ltI, nI_eq, pk_sub, ib_nI, nI_clamp, va_up_self, va_up_ne, va_up_up, va_up_comm, pk_us, pk_un, upd_up, updL_up, pk_uLs, pk_uLn, b01_1, b01_0, b01_1s, b01_0s, or_b, mm200, mu200, mm201, mu201, mm202, mu202, mm203, mu203, mm204, mu204, mm205, mu205, mm206, mu206, mm207, mu207, mm208, mu208, mm209, mu209, mm210, mu210, mm211, mu211, mm212, mu212, mm213, mu213, mm214, mu214, mm215, mu215, mm216, mu216, mm217, mu217, mm218, mu218, mm219, mu219, mm220, mu220, mm221, mu221, mm222, mu222, mm223, mu223, mm224, mu224, mm225, mu225, mm226, mu226, mm227, mu227, mm228, mu228, mm229, mu229, mm230, mu230, k1, hf, hy', a5, a6, k5, k6, lesser_eq, min_sym (nI 999), show ¬ P ≤ p by omega]
      refine ih (p + 1) _ (dayS l k p) (by omega) ?_ ?_ ?_
      · rw [va_up_self]
        refine ⟨LSb.cg (LSb_u1 (LSb_u2 (LSb_u9 hh.1 (show p < 8 by omega)) (show p < 8 by omega) _) (show p < 8 by omega) _) (fun j => ?_), ?_⟩
        · unfold dayS dayA
          rw [if_pos hy]
          simp only [vf_upd, show (999 : Int32) = nI 999 from rfl]
          by_cases j1 : j = 1
          · simp [j1]
          · by_cases j2 : j = 2 <;> simp [j1, j2]
        · rw [dayS3]
          simp (disch := omega) [pk_un, a13]
      · rw [va_up_self]
        exact hkk.kept (fun i hi => by simp (disch := omega) [pk_un])
      · intro s' h1 h2
        rw [va_up_up]
        refine hQ s' h1 (fun i hi => ?_)
        rw [h2 i hi, va_up_self]
        simp (disch := omega) [pk_un]
    · have hy' : ¬ k 12 0 * k 1 p < rsum (l 5) (p * 8) 8 (nI 0) := hy
      simp (disch := omega) [w230_0, w230_1, w230_3, x230_4, w230_7, w230_8, w230_9, w230_12, w230_13, x230_14, w230_17, w230_20, x230_21, w230_24, w230_27, w230_28, w230_29, w230_30, w230_31, x230_32, w230_35, w230_38, w230_39, w230_40, x230_41, w230_44, w230_46, w230_47, w230_48, w230_49, w230_50, x230_51, w230_54, w230_57, w230_58, w230_59, w230_62, x230_63, w230_66, w230_69, w230_70, w230_71, w230_72, x230_73, w230_76, w230_78, w230_79, w230_80, w230_81, x230_82, w230_85, w230_86, w230_89, w230_92, x230_93, w230_96, w230_99, w230_100, w230_101, w230_102, w230_103, w230_104, rt230, aw_st, ai_cls, ai_len, ai_p, ai_sw, ai_m, ai_c, ai_at, ai_isI, ai_isJ, ai_isA, ai_ld, ai_1i, ai_2i, ai_2l, ai_cn, ai_j, ai_set, ai_set2, ai_nl, ai_rs, ai_sm, Value.category, hk0, hk1, lits, litb, litm, litm2, or_n0, bit_r, fi0, fi1, fi2, fi3, nI_add, pk_mul, nI_leI, nI_ltI, nI_eq, pk_sub, ib_nI, nI_clamp, va_up_self, va_up_ne, va_up_up, va_up_comm, pk_us, pk_un, upd_up, updL_up, pk_uLs, pk_uLn, b01_1, b01_0, b01_1s, b01_0s, or_b, mm200, mu200, mm201, mu201, mm202, mu202, mm203, mu203, mm204, mu204, mm205, mu205, mm206, mu206, mm207, mu207, mm208, mu208, mm209, mu209, mm210, mu210, mm211, mu211, mm212, mu212, mm213, mu213, mm214, mu214, mm215, mu215, mm216, mu216, mm217, mu217, mm218, mu218, mm219, mu219, mm220, mu220, mm221, mu221, mm222, mu222, mm223, mu223, mm224, mu224, mm225, mu225, mm226, mu226, mm227, mu227, mm228, mu228, mm229, mu229, mm230, mu230, k1, hf, hy', a5, a6, k5, k6, lesser_eq, min_sym (nI 999), show ¬ P ≤ p by omega]
      refine ih (p + 1) _ (dayS l k p) (by omega) ?_ ?_ ?_
      · rw [va_up_self]
        refine ⟨LSb.cg (LSb_u1 (LSb_u2 hh.1 (show p < 8 by omega) _) (show p < 8 by omega) _) (fun j => ?_), ?_⟩
        · unfold dayS dayA
          rw [if_neg hy]
          simp only [vf_upd, show (999 : Int32) = nI 999 from rfl]
          by_cases j1 : j = 1
          · simp [j1]
          · by_cases j2 : j = 2 <;> simp [j1, j2]
        · rw [dayS3]
          simp (disch := omega) [pk_un, a13]
      · rw [va_up_self]
        exact hkk.kept (fun i hi => by simp (disch := omega) [pk_un])
      · intro s' h1 h2
        rw [va_up_up]
        refine hQ s' h1 (fun i hi => ?_)
        rw [h2 i hi, va_up_self]
        simp (disch := omega) [pk_un]
theorem day_wp {X : mX} (h : LSx (X 201) l) (hk : KS (X 201) k P S) (hQ : ∀ s', LSx s' (dayR k 0 P l) → (∀ i, i < 132 ∨ 257 ≤ i → s' i = X 201 i) → Q [] 231 sl (mem (va_up X 201 s') Y)) : aw ET G (d + 2) 230 0 [some (.ref 199), none] [] 231 sl (mem X Y) Q := by
  have := day_loop (G := G) (d := d) (sl := sl) (Y := Y) P 0 X l (by omega) h hk hQ
  simp [w230_0, w230_1, w230_3, x230_4, w230_7, w230_8, w230_9, w230_12, w230_13, x230_14, w230_17, w230_20, x230_21, w230_24, w230_27, w230_28, w230_29, w230_30, w230_31, x230_32, w230_35, w230_38, w230_39, w230_40, x230_41, w230_44, w230_46, w230_47, w230_48, w230_49, w230_50, x230_51, w230_54, w230_57, w230_58, w230_59, w230_62, x230_63, w230_66, w230_69, w230_70, w230_71, w230_72, x230_73, w230_76, w230_78, w230_79, w230_80, w230_81, x230_82, w230_85, w230_86, w230_89, w230_92, x230_93, w230_96, w230_99, w230_100, w230_101, w230_102, w230_103, w230_104, rt230, aw_st, ai_cls, ai_len, ai_p, ai_sw, ai_m, ai_c, ai_at, ai_isI, ai_isJ, ai_isA, ai_ld, ai_1i, ai_2i, ai_2l, ai_cn, ai_j, ai_set, ai_set2, ai_nl, ai_rs, ai_sm, Value.category, hk0, hk1, lits, litb, litm, litm2, or_n0, bit_r, fi0, fi1, fi2, fi3, nI_add, pk_mul, nI_leI, nI_ltI, nI_eq, pk_sub, ib_nI, nI_clamp, va_up_self, va_up_ne, va_up_up, va_up_comm, pk_us, pk_un, upd_up, updL_up, pk_uLs, pk_uLn, b01_1, b01_0, b01_1s, b01_0s, or_b, mm200, mu200, mm201, mu201, mm202, mu202, mm203, mu203, mm204, mu204, mm205, mu205, mm206, mu206, mm207, mu207, mm208, mu208, mm209, mu209, mm210, mu210, mm211, mu211, mm212, mu212, mm213, mu213, mm214, mu214, mm215, mu215, mm216, mu216, mm217, mu217, mm218, mu218, mm219, mu219, mm220, mu220, mm221, mu221, mm222, mu222, mm223, mu223, mm224, mu224, mm225, mu225, mm226, mu226, mm227, mu227, mm228, mu228, mm229, mu229, mm230, mu230]
  exact this
/-- a row that is filled from another one, place by place -/
theorem cpy_step {α : Type} (f g : Nat → α) (a b r : Nat) : va_cpy f (vf_upd g b (f a)) (a + 1) (b + 1) r = va_cpy f g a b (r + 1) := by
  funext j
  simp only [va_cpy, vf_upd]
  by_cases h1 : b + 1 ≤ j ∧ j < b + 1 + r
  · rw [if_pos h1, if_pos (by omega)]
    congr 1; omega
  · rw [if_neg h1]
    by_cases h2 : j = b
    · subst h2; rw [if_pos rfl, if_pos (by omega)]; congr 1; omega
    · rw [if_neg h2, if_neg (by omega)]
theorem cpy_0 {α : Type} (f g : Nat → α) (a b : Nat) : va_cpy f g a b 0 = g := by
  funext j
  simp only [va_cpy]
  rw [if_neg (by omega)]
theorem upd_vf (f : Nat → Int32) (k : Nat) (v : Int32) : upd f k v = vf_upd f k v := rfl
set_option maxHeartbeats 4000000 in
theorem tries_loop : ∀ (r i : Nat) (X : mX), i + r = 125 → aw ET G d 267 2 [some (.ref 199), some (.int (nI i))] [] 231 sl (mem X Y) Q = Q [] 231 sl (mem (va_up X 209 (va_cpy (X 201) (X 209) (132 + i) i r)) Y) := by
  intro r
  induction r with
  | zero =>
    intro i X hi
    have e : va_up X 209 (va_cpy (X 201) (X 209) (132 + i) i 0) = X := by rw [cpy_0]; funext j; simp only [va_up]; split <;> simp_all
    simp (disch := omega) [w267_0, w267_1, w267_2, w267_3, w267_5, w267_8, x267_9, w267_12, w267_13, x267_14, w267_17, w267_20, w267_21, w267_22, w267_23, w267_24, w267_27, w267_30, rt267, aw_st, ai_cls, ai_len, ai_p, ai_sw, ai_m, ai_c, ai_at, ai_isI, ai_isJ, ai_isA, ai_ld, ai_1i, ai_2i, ai_2l, ai_cn, ai_j, ai_set, ai_set2, ai_nl, ai_rs, ai_sm, Value.category, hk0, hk1, lits, litb, litm, litm2, or_n0, bit_r, fi0, fi1, fi2, fi3, nI_add, pk_mul, nI_leI, nI_ltI, nI_eq, pk_sub, ib_nI, nI_clamp, va_up_self, va_up_ne, va_up_up, va_up_comm, pk_us, pk_un, upd_up, updL_up, pk_uLs, pk_uLn, b01_1, b01_0, b01_1s, b01_0s, or_b, mm200, mu200, mm201, mu201, mm202, mu202, mm203, mu203, mm204, mu204, mm205, mu205, mm206, mu206, mm207, mu207, mm208, mu208, mm209, mu209, mm210, mu210, mm211, mu211, mm212, mu212, mm213, mu213, mm214, mu214, mm215, mu215, mm216, mu216, mm217, mu217, mm218, mu218, mm219, mu219, mm220, mu220, mm221, mu221, mm222, mu222, mm223, mu223, mm224, mu224, mm225, mu225, mm226, mu226, mm227, mu227, mm228, mu228, mm229, mu229, mm230, mu230, show 125 ≤ i by omega, e]
  | succ r ih =>
    intro i X hi
    rw [w267_2]
    simp (disch := omega) [w267_0, w267_1, w267_3, w267_5, w267_8, x267_9, w267_12, w267_13, x267_14, w267_17, w267_20, w267_21, w267_22, w267_23, w267_24, w267_27, w267_30, rt267, aw_st, ai_cls, ai_len, ai_p, ai_sw, ai_m, ai_c, ai_at, ai_isI, ai_isJ, ai_isA, ai_ld, ai_1i, ai_2i, ai_2l, ai_cn, ai_j, ai_set, ai_set2, ai_nl, ai_rs, ai_sm, Value.category, hk0, hk1, lits, litb, litm, litm2, or_n0, bit_r, fi0, fi1, fi2, fi3, nI_add, pk_mul, nI_leI, nI_ltI, nI_eq, pk_sub, ib_nI, nI_clamp, va_up_self, va_up_ne, va_up_up, va_up_comm, pk_us, pk_un, upd_up, updL_up, pk_uLs, pk_uLn, b01_1, b01_0, b01_1s, b01_0s, or_b, mm200, mu200, mm201, mu201, mm202, mu202, mm203, mu203, mm204, mu204, mm205, mu205, mm206, mu206, mm207, mu207, mm208, mu208, mm209, mu209, mm210, mu210, mm211, mu211, mm212, mu212, mm213, mu213, mm214, mu214, mm215, mu215, mm216, mu216, mm217, mu217, mm218, mu218, mm219, mu219, mm220, mu220, mm221, mu221, mm222, mu222, mm223, mu223, mm224, mu224, mm225, mu225, mm226, mu226, mm227, mu227, mm228, mu228, mm229, mu229, mm230, mu230, show ¬ 125 ≤ i by omega]
    rw [ih (i + 1) _ (by omega), ← cpy_step]
    simp (disch := omega) [va_up_self, va_up_up, va_up_ne, upd_vf, show 132 + (i + 1) = 132 + i + 1 from rfl]
theorem tries_eq {X : mX} : aw ET G d 267 0 [some (.ref 199), none] [] 231 sl (mem X Y) Q = Q [] 231 sl (mem (va_up X 209 (va_cpy (X 201) (X 209) 132 0 125)) Y) := by
  have := tries_loop (G := G) (d := d) (sl := sl) (Y := Y) (Q := Q) 125 0 X (by omega)
  simp [w267_0, w267_1, w267_3, w267_5, w267_8, x267_9, w267_12, w267_13, x267_14, w267_17, w267_20, w267_21, w267_22, w267_23, w267_24, w267_27, w267_30, rt267, aw_st, ai_cls, ai_len, ai_p, ai_sw, ai_m, ai_c, ai_at, ai_isI, ai_isJ, ai_isA, ai_ld, ai_1i, ai_2i, ai_2l, ai_cn, ai_j, ai_set, ai_set2, ai_nl, ai_rs, ai_sm, Value.category, hk0, hk1, lits, litb, litm, litm2, or_n0, bit_r, fi0, fi1, fi2, fi3, nI_add, pk_mul, nI_leI, nI_ltI, nI_eq, pk_sub, ib_nI, nI_clamp, va_up_self, va_up_ne, va_up_up, va_up_comm, pk_us, pk_un, upd_up, updL_up, pk_uLs, pk_uLn, b01_1, b01_0, b01_1s, b01_0s, or_b, mm200, mu200, mm201, mu201, mm202, mu202, mm203, mu203, mm204, mu204, mm205, mu205, mm206, mu206, mm207, mu207, mm208, mu208, mm209, mu209, mm210, mu210, mm211, mu211, mm212, mu212, mm213, mu213, mm214, mu214, mm215, mu215, mm216, mu216, mm217, mu217, mm218, mu218, mm219, mu219, mm220, mu220, mm221, mu221, mm222, mu222, mm223, mu223, mm224, mu224, mm225, mu225, mm226, mu226, mm227, mu227, mm228, mu228, mm229, mu229, mm230, mu230] at this ⊢
  exact this
set_option maxHeartbeats 4000000 in
theorem back_loop : ∀ (r i : Nat) (X : mX), i + r = 125 → aw ET G d 268 2 [some (.ref 199), some (.int (nI i))] [] 231 sl (mem X Y) Q = Q [] 231 sl (mem (va_up X 201 (va_cpy (X 209) (X 201) i (132 + i) r)) Y) := by
  intro r
  induction r with
  | zero =>
    intro i X hi
    have e : va_up X 201 (va_cpy (X 209) (X 201) i (132 + i) 0) = X := by rw [cpy_0]; funext j; simp only [va_up]; split <;> simp_all
    simp (disch := omega) [w268_0, w268_1, w268_2, w268_3, w268_5, w268_8, x268_9, w268_12, w268_15, w268_16, w268_17, x268_18, w268_21, w268_22, w268_23, w268_24, w268_27, w268_30, rt268, aw_st, ai_cls, ai_len, ai_p, ai_sw, ai_m, ai_c, ai_at, ai_isI, ai_isJ, ai_isA, ai_ld, ai_1i, ai_2i, ai_2l, ai_cn, ai_j, ai_set, ai_set2, ai_nl, ai_rs, ai_sm, Value.category, hk0, hk1, lits, litb, litm, litm2, or_n0, bit_r, fi0, fi1, fi2, fi3, nI_add, pk_mul, nI_leI, nI_ltI, nI_eq, pk_sub, ib_nI, nI_clamp, va_up_self, va_up_ne, va_up_up, va_up_comm, pk_us, pk_un, upd_up, updL_up, pk_uLs, pk_uLn, b01_1, b01_0, b01_1s, b01_0s, or_b, mm200, mu200, mm201, mu201, mm202, mu202, mm203, mu203, mm204, mu204, mm205, mu205, mm206, mu206, mm207, mu207, mm208, mu208, mm209, mu209, mm210, mu210, mm211, mu211, mm212, mu212, mm213, mu213, mm214, mu214, mm215, mu215, mm216, mu216, mm217, mu217, mm218, mu218, mm219, mu219, mm220, mu220, mm221, mu221, mm222, mu222, mm223, mu223, mm224, mu224, mm225, mu225, mm226, mu226, mm227, mu227, mm228, mu228, mm229, mu229, mm230, mu230, show 125 ≤ i by omega, e]
  | succ r ih =>
    intro i X hi
    rw [w268_2]
    simp (disch := omega) [w268_0, w268_1, w268_3, w268_5, w268_8, x268_9, w268_12, w268_15, w268_16, w268_17, x268_18, w268_21, w268_22, w268_23, w268_24, w268_27, w268_30, rt268, aw_st, ai_cls, ai_len, ai_p, ai_sw, ai_m, ai_c, ai_at, ai_isI, ai_isJ, ai_isA, ai_ld, ai_1i, ai_2i, ai_2l, ai_cn, ai_j, ai_set, ai_set2, ai_nl, ai_rs, ai_sm, Value.category, hk0, hk1, lits, litb, litm, litm2, or_n0, bit_r, fi0, fi1, fi2, fi3, nI_add, pk_mul, nI_leI, nI_ltI, nI_eq, pk_sub, ib_nI, nI_clamp, va_up_self, va_up_ne, va_up_up, va_up_comm, pk_us, pk_un, upd_up, updL_up, pk_uLs, pk_uLn, b01_1, b01_0, b01_1s, b01_0s, or_b, mm200, mu200, mm201, mu201, mm202, mu202, mm203, mu203, mm204, mu204, mm205, mu205, mm206, mu206, mm207, mu207, mm208, mu208, mm209, mu209, mm210, mu210, mm211, mu211, mm212, mu212, mm213, mu213, mm214, mu214, mm215, mu215, mm216, mu216, mm217, mu217, mm218, mu218, mm219, mu219, mm220, mu220, mm221, mu221, mm222, mu222, mm223, mu223, mm224, mu224, mm225, mu225, mm226, mu226, mm227, mu227, mm228, mu228, mm229, mu229, mm230, mu230, show ¬ 125 ≤ i by omega]
    rw [ih (i + 1) _ (by omega), ← cpy_step]
    simp (disch := omega) [va_up_self, va_up_up, va_up_ne, upd_vf, show 132 + (i + 1) = 132 + i + 1 from rfl]
theorem back_eq {X : mX} : aw ET G d 268 0 [some (.ref 199), none] [] 231 sl (mem X Y) Q = Q [] 231 sl (mem (va_up X 201 (va_cpy (X 209) (X 201) 0 132 125)) Y) := by
  have := back_loop (G := G) (d := d) (sl := sl) (Y := Y) (Q := Q) 125 0 X (by omega)
  simp [w268_0, w268_1, w268_3, w268_5, w268_8, x268_9, w268_12, w268_15, w268_16, w268_17, x268_18, w268_21, w268_22, w268_23, w268_24, w268_27, w268_30, rt268, aw_st, ai_cls, ai_len, ai_p, ai_sw, ai_m, ai_c, ai_at, ai_isI, ai_isJ, ai_isA, ai_ld, ai_1i, ai_2i, ai_2l, ai_cn, ai_j, ai_set, ai_set2, ai_nl, ai_rs, ai_sm, Value.category, hk0, hk1, lits, litb, litm, litm2, or_n0, bit_r, fi0, fi1, fi2, fi3, nI_add, pk_mul, nI_leI, nI_ltI, nI_eq, pk_sub, ib_nI, nI_clamp, va_up_self, va_up_ne, va_up_up, va_up_comm, pk_us, pk_un, upd_up, updL_up, pk_uLs, pk_uLn, b01_1, b01_0, b01_1s, b01_0s, or_b, mm200, mu200, mm201, mu201, mm202, mu202, mm203, mu203, mm204, mu204, mm205, mu205, mm206, mu206, mm207, mu207, mm208, mu208, mm209, mu209, mm210, mu210, mm211, mu211, mm212, mu212, mm213, mu213, mm214, mu214, mm215, mu215, mm216, mu216, mm217, mu217, mm218, mu218, mm219, mu219, mm220, mu220, mm221, mu221, mm222, mu222, mm223, mu223, mm224, mu224, mm225, mu225, mm226, mu226, mm227, mu227, mm228, mu228, mm229, mu229, mm230, mu230] at this ⊢
  exact this
end RFD
