/-! THE REFERENCE, XI: years by seeds -/
section RFK
variable {G : ai_G} {d n sl : Nat} {Y : mY} {Q : List Value → Nat → Nat → ai_M → Prop} {l k : Nat → Nat → Int32} {P S m : Nat} {ls : Nat → Nat → Nat → Int32} {X : mX}
def turnI (x : Int32) : Int32 := x * 1103515245 + 12345
theorem ushr8 (x : Int32) : ∃ v, v < 2 ^ 24 ∧ (x.toUInt32 >>> (Int32.toUInt32 8 &&& Int32.toUInt32 31)).toInt32 = nI v := by
  have h := pk_ushr x 8 8 (by decide)
  have hb : x.toBitVec.toNat < 2 ^ 32 := x.toBitVec.isLt
  refine ⟨x.toBitVec.toNat / 2 ^ 8, by omega, ?_⟩
  apply Int32.toBitVec_inj.mp
  apply BitVec.eq_of_toNat_eq
  rw [h, pk_tn (by omega)]
theorem draw_nat {x : Int32} {M : Nat} (h : 0 < M) (hM : M < 2 ^ 31) : ∃ a, a < M ∧ drawI x (nI M) = nI a := by
  obtain ⟨v, hv, e⟩ := ushr8 x
  refine ⟨v % M, Nat.mod_lt _ h, ?_⟩
  unfold drawI
  rw [if_pos (show (0 : Int32) < nI M from nI_lt (a := 0) h hM), e, pk_rem (by omega) h hM]
set_option maxHeartbeats 4000000 in
theorem rdraw_eq {M : Nat} (h : 0 < M) (hM : M < 1000) : aw ET G d 265 0 [some (.ref 199), some (.int (nI M))] [] 231 sl (mem X Y) Q = Q [.int (drawI (turnI (X 199 50)) (nI M))] 231 sl (mem (va_up X 199 (upd (X 199) 50 (turnI (X 199 50)))) Y) := by
  have h0 : ¬ nI M = 0 := nI_ne0 h (by omega)
  have h1 : (0 : Int32) < nI M := nI_lt (a := 0) h (by omega)
  have e1 : (Int32.ofNat 1103515245) = (1103515245 : Int32) := rfl
  unfold drawI turnI
  rw [if_pos h1]
  simp (disch := omega) [w265_0, w265_1, x265_2, w265_5, w265_8, w265_9, w265_12, x265_13, w265_16, x265_17, w265_20, w265_22, w265_23, w265_24, w265_25, rt265, ow265, pl12_408, aw_st, ai_cls, ai_len, ai_p, ai_sw, ai_m, ai_c, ai_at, ai_isI, ai_isJ, ai_isA, ai_ld, ai_1i, ai_2i, ai_2l, ai_cn, ai_j, ai_set, ai_set2, ai_nl, ai_rs, ai_sm, Value.category, hk0, hk1, lits, litb, litm, litm2, or_n0, bit_r, fi0, fi1, fi2, fi3, nI_toInt, nI_add, pk_mul, nI_leI, nI_ltI, nI_eq, pk_sub, ib_nI, nI_clamp, va_up_self, va_up_ne, va_up_up, va_up_comm, pk_us, pk_un, upd_up, updL_up, pk_uLs, pk_uLn, b01_1, b01_0, b01_1s, b01_0s, or_b, mm200, mu200, mm201, mu201, mm202, mu202, mm203, mu203, mm204, mu204, mm205, mu205, mm206, mu206, mm207, mu207, mm208, mu208, mm209, mu209, mm210, mu210, mm211, mu211, mm212, mu212, mm213, mu213, mm214, mu214, mm215, mu215, mm216, mu216, mm217, mu217, mm218, mu218, mm219, mu219, mm220, mu220, mm221, mu221, mm222, mu222, mm223, mu223, mm224, mu224, mm225, mu225, mm226, mu226, mm227, mu227, mm228, mu228, mm229, mu229, mm230, mu230, show ¬ M = 0 by omega]
abbrev Zt : Type := (Nat → Nat → Int32) × Int32 × Int32
/-- one talk that is drawn: what is so, the seed, how many were done -/
def talkS (k : Nat → Nat → Int32) (P : Nat) (z : Zt) : Zt :=
  if whyI z.1 k (iN (drawI (turnI z.2.1) (nI P))) (iN (drawI (turnI (turnI z.2.1)) (nI P))) (nI (iN (drawI (turnI (turnI (turnI z.2.1))) (nI 3)) + 1)) = 0 then (hearL z.1 k (iN (drawI (turnI z.2.1) (nI P))) (iN (drawI (turnI (turnI z.2.1)) (nI P))) (nI (iN (drawI (turnI (turnI (turnI z.2.1))) (nI 3)) + 1)), turnI (turnI (turnI z.2.1)), z.2.2 + 1) else (z.1, turnI (turnI (turnI z.2.1)), z.2.2)
def talksR (k : Nat → Nat → Int32) (P : Nat) : Nat → Zt → Zt
  | 0, z => z
  | r + 1, z => talksR k P r (talkS k P z)
def drawsR (k : Nat → Nat → Int32) (P T : Nat) : Nat → Zt → Zt
  | 0, z => z
  | r + 1, z => drawsR k P T r (dayR k 0 P (talksR k P T z).1, (talksR k P T z).2.1, (talksR k P T z).2.2)
def ups (X : mX) (x : Int32) (s : Nat → Int32) : mX := va_up (va_up X 199 (upd (X 199) 50 x)) 201 s
theorem ups_ups (x x' : Int32) (s s' : Nat → Int32) : ups (ups X x s) x' s' = ups X x' s' := by
  funext j
  simp only [ups, va_up]
  by_cases h1 : j = 201
  · simp [h1]
  · by_cases h2 : j = 199
    · simp [h2, upd_up]
    · simp [h1, h2]
theorem ups_x (x x' : Int32) (s : Nat → Int32) : ups (va_up X 199 (upd (X 199) 50 x')) x s = ups X x s := by
  simp only [ups, va_up_self, va_up_up, upd_up]
theorem ups_id : ups X (X 199 50) (X 201) = X := by
  funext j
  simp only [ups, va_up]
  by_cases h1 : j = 201
  · simp [h1]
  · by_cases h2 : j = 199
    · subst h2; simp; funext i; simp only [upd]; split <;> simp_all
    · simp [h1, h2]
theorem va_id {α : Type} (X : Nat → α) (j : Nat) : va_up X j (X j) = X := by funext i; simp only [va_up]; split <;> simp_all
set_option maxHeartbeats 8000000 in
set_option maxRecDepth 20000 in
theorem talks_loop {g T : Nat} (hT : T ≤ 100) (hP0 : 0 < P) (hg : g ≤ 9) (hgk : k 11 0 = nI g) {v1 v3 v5 : Int32} : ∀ (r j : Nat) (X : mX) (l : Nat → Nat → Int32) (x dn : Int32) (za zb zh : Option Value), j + r = T → LSx (X 201) l → KS (X 201) k P S → X 199 50 = x → (∀ s' (za zb zh : Option Value), LSx s' (talksR k P r (l, x, dn)).1 → (∀ i, i < 132 ∨ 257 ≤ i → s' i = X 201 i) → aw ET G (d + 3) 264 94 [some (.ref 199), some (.int v1), some (.int (nI T)), some (.int v3), some (.int (talksR k P r (l, x, dn)).2.2), some (.int v5), some (.int (nI T)), za, zb, zh] [] 231 sl (mem (ups X (talksR k P r (l, x, dn)).2.1 s') Y) Q) → aw ET G (d + 3) 264 20 [some (.ref 199), some (.int v1), some (.int (nI T)), some (.int v3), some (.int dn), some (.int v5), some (.int (nI j)), za, zb, zh] [] 231 sl (mem X Y) Q := by
  intro r
  induction r with
  | zero =>
    intro j X l x dn za zb zh hj hL hk hx hQ
    have : j = T := by omega
    subst this
    subst hx
    have := hQ (X 201) za zb zh hL (fun _ _ => rfl)
    simp only [talksR, ups_id] at this
    simp (disch := omega) [w264_20, w264_22, w264_23, aw_st, ai_cls, ai_len, ai_p, ai_sw, ai_m, ai_c, ai_at, ai_isI, ai_isJ, ai_isA, ai_ld, ai_1i, ai_2i, ai_2l, ai_cn, ai_j, ai_set, ai_set2, ai_nl, ai_rs, ai_sm, Value.category, hk0, hk1, lits, litb, litm, litm2, or_n0, bit_r, fi0, fi1, fi2, fi3, nI_toInt, nI_add, pk_mul, nI_leI, nI_ltI, nI_eq, pk_sub, ib_nI, nI_clamp, va_up_self, va_up_ne, va_up_up, va_up_comm, pk_us, pk_un, upd_up, updL_up, pk_uLs, pk_uLn, b01_1, b01_0, b01_1s, b01_0s, or_b, mm200, mu200, mm201, mu201, mm202, mu202, mm203, mu203, mm204, mu204, mm205, mu205, mm206, mu206, mm207, mu207, mm208, mu208, mm209, mu209, mm210, mu210, mm211, mu211, mm212, mu212, mm213, mu213, mm214, mu214, mm215, mu215, mm216, mu216, mm217, mu217, mm218, mu218, mm219, mu219, mm220, mu220, mm221, mu221, mm222, mu222, mm223, mu223, mm224, mu224, mm225, mu225, mm226, mu226, mm227, mu227, mm228, mu228, mm229, mu229, mm230, mu230]
    exact this
  | succ r ih =>
    intro j X l x dn za zb zh hj hL hk hx hQ
    have k1 := hk.2.2.2.2.1
    have hP := hk.1
    obtain ⟨a, ha, ea⟩ := draw_nat (x := turnI x) hP0 (show P < 2 ^ 31 by omega)
    obtain ⟨b, hb, eb⟩ := draw_nat (x := turnI (turnI x)) hP0 (show P < 2 ^ 31 by omega)
    obtain ⟨c, hc, ec⟩ := draw_nat (x := turnI (turnI (turnI x))) (M := 3) (by omega) (by omega)
    have ia : iN (nI a) = a := iN_nI (by omega)
    have ib : iN (nI b) = b := iN_nI (by omega)
    have ic : iN (nI c) = c := iN_nI (by omega)
    have hts : talkS k P (l, x, dn) = if whyI l k a b (nI (c + 1)) = 0 then (hearL l k a b (nI (c + 1)), turnI (turnI (turnI x)), dn + 1) else (l, turnI (turnI (turnI x)), dn) := by
      unfold talkS
      rw [ea, eb, ec, ia, ib, ic]
    have hw : ∀ (Q : List Value → Nat → Nat → ai_M → Prop), aw ET G (d + 2) 218 0 [some (.ref 199), some (.int (nI a)), some (.int (nI b)), some (.int (nI (c + 1)))] [] 231 sl (mem (va_up X 199 (upd (X 199) 50 (turnI (turnI (turnI x))))) Y) Q = Q [.int (whyI l k a b (nI (c + 1)))] 231 sl (mem (va_up X 199 (upd (X 199) 50 (turnI (turnI (turnI x))))) Y) := fun Q => whyHear_eq (X := va_up X 199 (upd (X 199) 50 (turnI (turnI (turnI x))))) hL.1 hk (by omega) (by omega)
    simp only [talksR, hts] at hQ
    rw [w264_20]
    by_cases hz : whyI l k a b (nI (c + 1)) = nI 0
    · have hz' : whyI l k a b (nI (c + 1)) = 0 := hz
      rw [if_pos hz'] at hQ
      simp (disch := omega) [w264_0, w264_1, x264_2, w264_5, w264_6, w264_8, w264_9, w264_11, w264_13, w264_14, w264_17, w264_18, w264_22, w264_23, w264_26, w264_27, x264_28, w264_31, w264_32, x264_33, w264_36, w264_38, w264_39, x264_40, w264_43, w264_44, x264_45, w264_48, w264_50, w264_51, w264_52, x264_53, w264_56, w264_57, w264_59, w264_60, w264_62, w264_64, x264_66, w264_69, w264_72, w264_75, w264_76, w264_78, w264_80, x264_82, w264_85, w264_88, w264_91, w264_94, x264_95, w264_98, w264_101, w264_104, w264_106, rt264, aw_st, ai_cls, ai_len, ai_p, ai_sw, ai_m, ai_c, ai_at, ai_isI, ai_isJ, ai_isA, ai_ld, ai_1i, ai_2i, ai_2l, ai_cn, ai_j, ai_set, ai_set2, ai_nl, ai_rs, ai_sm, Value.category, hk0, hk1, lits, litb, litm, litm2, or_n0, bit_r, fi0, fi1, fi2, fi3, nI_toInt, nI_add, pk_mul, nI_leI, nI_ltI, nI_eq, pk_sub, ib_nI, nI_clamp, va_up_self, va_up_ne, va_up_up, va_up_comm, pk_us, pk_un, upd_up, updL_up, pk_uLs, pk_uLn, b01_1, b01_0, b01_1s, b01_0s, or_b, mm200, mu200, mm201, mu201, mm202, mu202, mm203, mu203, mm204, mu204, mm205, mu205, mm206, mu206, mm207, mu207, mm208, mu208, mm209, mu209, mm210, mu210, mm211, mu211, mm212, mu212, mm213, mu213, mm214, mu214, mm215, mu215, mm216, mu216, mm217, mu217, mm218, mu218, mm219, mu219, mm220, mu220, mm221, mu221, mm222, mu222, mm223, mu223, mm224, mu224, mm225, mu225, mm226, mu226, mm227, mu227, mm228, mu228, mm229, mu229, mm230, mu230, k1, rdraw_eq, hx, ea, eb, ec, hw, hz, n00, Nat.add_comm 1 c, show ¬ T ≤ j by omega]
      refine hears_wp (l := l) (k := k) (P := P) (S := S) ?h1 ?h2 hg hgk (by omega) (by omega) (by omega) ?h3
      case h1 => exact hL
      case h2 => exact hk
      intro s' h1 h2
      refine ih (j + 1) _ (hearL l k a b (nI (c + 1))) (turnI (turnI (turnI x))) (dn + nI 1) _ _ _ (by omega) ?_ ?_ ?_ ?_
      · rw [va_up_self]; exact h1
      · rw [va_up_self]; exact hk.kept (fun i hi => h2 i (by omega))
      · simp [va_up, upd]
      · intro s2 za zb zh h3 h4
        have e : ups (va_up (va_up X 199 (upd (X 199) 50 (turnI (turnI (turnI x))))) 201 s') (talksR k P r (hearL l k a b (nI (c + 1)), turnI (turnI (turnI x)), dn + nI 1)).2.1 s2 = ups X (talksR k P r (hearL l k a b (nI (c + 1)), turnI (turnI (turnI x)), dn + nI 1)).2.1 s2 := ups_ups (X := X) (turnI (turnI (turnI x))) _ s' s2
        rw [e]
        exact hQ s2 za zb zh h3 (fun i hi => by rw [h4 i hi, va_up_self]; exact h2 i hi)
    · have hz' : ¬ whyI l k a b (nI (c + 1)) = 0 := hz
      rw [if_neg hz'] at hQ
      simp (disch := omega) [w264_0, w264_1, x264_2, w264_5, w264_6, w264_8, w264_9, w264_11, w264_13, w264_14, w264_17, w264_18, w264_22, w264_23, w264_26, w264_27, x264_28, w264_31, w264_32, x264_33, w264_36, w264_38, w264_39, x264_40, w264_43, w264_44, x264_45, w264_48, w264_50, w264_51, w264_52, x264_53, w264_56, w264_57, w264_59, w264_60, w264_62, w264_64, x264_66, w264_69, w264_72, w264_75, w264_76, w264_78, w264_80, x264_82, w264_85, w264_88, w264_91, w264_94, x264_95, w264_98, w264_101, w264_104, w264_106, rt264, aw_st, ai_cls, ai_len, ai_p, ai_sw, ai_m, ai_c, ai_at, ai_isI, ai_isJ, ai_isA, ai_ld, ai_1i, ai_2i, ai_2l, ai_cn, ai_j, ai_set, ai_set2, ai_nl, ai_rs, ai_sm, Value.category, hk0, hk1, lits, litb, litm, litm2, or_n0, bit_r, fi0, fi1, fi2, fi3, nI_toInt, nI_add, pk_mul, nI_leI, nI_ltI, nI_eq, pk_sub, ib_nI, nI_clamp, va_up_self, va_up_ne, va_up_up, va_up_comm, pk_us, pk_un, upd_up, updL_up, pk_uLs, pk_uLn, b01_1, b01_0, b01_1s, b01_0s, or_b, mm200, mu200, mm201, mu201, mm202, mu202, mm203, mu203, mm204, mu204, mm205, mu205, mm206, mu206, mm207, mu207, mm208, mu208, mm209, mu209, mm210, mu210, mm211, mu211, mm212, mu212, mm213, mu213, mm214, mu214, mm215, mu215, mm216, mu216, mm217, mu217, mm218, mu218, mm219, mu219, mm220, mu220, mm221, mu221, mm222, mu222, mm223, mu223, mm224, mu224, mm225, mu225, mm226, mu226, mm227, mu227, mm228, mu228, mm229, mu229, mm230, mu230, k1, rdraw_eq, hx, ea, eb, ec, hw, whyI_pos hz, Nat.add_comm 1 c, show ¬ T ≤ j by omega]
      refine ih (j + 1) _ l (turnI (turnI (turnI x))) dn _ _ _ (by omega) hL hk ?_ ?_
      · simp [va_up, upd]
      · intro s2 za zb zh h3 h4
        rw [ups_x]
        exact hQ s2 za zb zh h3 h4
theorem ups2 (x x' : Int32) (s s' s2 : Nat → Int32) : ups (va_up (ups X x s) 201 s') x' s2 = ups X x' s2 := by
  funext j
  simp only [ups, va_up]
  by_cases h1 : j = 201
  · simp [h1]
  · by_cases h2 : j = 199
    · simp [h2, upd_up]
    · simp [h1, h2]
set_option maxHeartbeats 8000000 in
set_option maxRecDepth 20000 in
theorem years_loop {g T N : Nat} (hT : T ≤ 100) (hN : N ≤ 1000) (hP0 : 0 < P) (hg : g ≤ 9) (hgk : k 11 0 = nI g) {v3 : Int32} : ∀ (r i : Nat) (X : mX) (l : Nat → Nat → Int32) (x dn : Int32) (zj za zb zh : Option Value), i + r = N → LSx (X 201) l → KS (X 201) k P S → X 199 50 = x → (∀ s', LSx s' (drawsR k P T r (l, x, dn)).1 → (∀ i, i < 132 ∨ 257 ≤ i → s' i = X 201 i) → Q [.int (drawsR k P T r (l, x, dn)).2.2] 231 sl (mem (ups X (drawsR k P T r (l, x, dn)).2.1 s') Y)) → aw ET G (d + 3) 264 11 [some (.ref 199), some (.int (nI N)), some (.int (nI T)), some (.int v3), some (.int dn), some (.int (nI i)), zj, za, zb, zh] [] 231 sl (mem X Y) Q := by
  intro r
  induction r with
  | zero =>
    intro i X l x dn zj za zb zh hi hL hk hx hQ
    have : i = N := by omega
    subst this
    subst hx
    have := hQ (X 201) hL (fun _ _ => rfl)
    simp only [drawsR, ups_id] at this
    simp (disch := omega) [w264_11, w264_13, w264_14, w264_104, w264_106, rt264, aw_st, ai_cls, ai_len, ai_p, ai_sw, ai_m, ai_c, ai_at, ai_isI, ai_isJ, ai_isA, ai_ld, ai_1i, ai_2i, ai_2l, ai_cn, ai_j, ai_set, ai_set2, ai_nl, ai_rs, ai_sm, Value.category, hk0, hk1, lits, litb, litm, litm2, or_n0, bit_r, fi0, fi1, fi2, fi3, nI_toInt, nI_add, pk_mul, nI_leI, nI_ltI, nI_eq, pk_sub, ib_nI, nI_clamp, va_up_self, va_up_ne, va_up_up, va_up_comm, pk_us, pk_un, upd_up, updL_up, pk_uLs, pk_uLn, b01_1, b01_0, b01_1s, b01_0s, or_b, mm200, mu200, mm201, mu201, mm202, mu202, mm203, mu203, mm204, mu204, mm205, mu205, mm206, mu206, mm207, mu207, mm208, mu208, mm209, mu209, mm210, mu210, mm211, mu211, mm212, mu212, mm213, mu213, mm214, mu214, mm215, mu215, mm216, mu216, mm217, mu217, mm218, mu218, mm219, mu219, mm220, mu220, mm221, mu221, mm222, mu222, mm223, mu223, mm224, mu224, mm225, mu225, mm226, mu226, mm227, mu227, mm228, mu228, mm229, mu229, mm230, mu230]
    exact this
  | succ r ih =>
    intro i X l x dn zj za zb zh hi hL hk hx hQ
    rw [w264_11]
    simp (disch := omega) [w264_13, w264_14, w264_17, w264_18, aw_st, ai_cls, ai_len, ai_p, ai_sw, ai_m, ai_c, ai_at, ai_isI, ai_isJ, ai_isA, ai_ld, ai_1i, ai_2i, ai_2l, ai_cn, ai_j, ai_set, ai_set2, ai_nl, ai_rs, ai_sm, Value.category, hk0, hk1, lits, litb, litm, litm2, or_n0, bit_r, fi0, fi1, fi2, fi3, nI_toInt, nI_add, pk_mul, nI_leI, nI_ltI, nI_eq, pk_sub, ib_nI, nI_clamp, va_up_self, va_up_ne, va_up_up, va_up_comm, pk_us, pk_un, upd_up, updL_up, pk_uLs, pk_uLn, b01_1, b01_0, b01_1s, b01_0s, or_b, mm200, mu200, mm201, mu201, mm202, mu202, mm203, mu203, mm204, mu204, mm205, mu205, mm206, mu206, mm207, mu207, mm208, mu208, mm209, mu209, mm210, mu210, mm211, mu211, mm212, mu212, mm213, mu213, mm214, mu214, mm215, mu215, mm216, mu216, mm217, mu217, mm218, mu218, mm219, mu219, mm220, mu220, mm221, mu221, mm222, mu222, mm223, mu223, mm224, mu224, mm225, mu225, mm226, mu226, mm227, mu227, mm228, mu228, mm229, mu229, mm230, mu230, show ¬ N ≤ i by omega]
    refine talks_loop (T := T) (P := P) (S := S) (k := k) hT hP0 hg hgk T 0 X l x dn _ _ _ (by omega) hL hk hx ?_
    intro s1 za zb zh h1 h2
    simp (disch := omega) [w264_94, x264_95, aw_st, ai_cls, ai_len, ai_p, ai_sw, ai_m, ai_c, ai_at, ai_isI, ai_isJ, ai_isA, ai_ld, ai_1i, ai_2i, ai_2l, ai_cn, ai_j, ai_set, ai_set2, ai_nl, ai_rs, ai_sm, Value.category, hk0, hk1, lits, litb, litm, litm2, or_n0, bit_r, fi0, fi1, fi2, fi3, nI_toInt, nI_add, pk_mul, nI_leI, nI_ltI, nI_eq, pk_sub, ib_nI, nI_clamp, va_up_self, va_up_ne, va_up_up, va_up_comm, pk_us, pk_un, upd_up, updL_up, pk_uLs, pk_uLn, b01_1, b01_0, b01_1s, b01_0s, or_b, mm200, mu200, mm201, mu201, mm202, mu202, mm203, mu203, mm204, mu204, mm205, mu205, mm206, mu206, mm207, mu207, mm208, mu208, mm209, mu209, mm210, mu210, mm211, mu211, mm212, mu212, mm213, mu213, mm214, mu214, mm215, mu215, mm216, mu216, mm217, mu217, mm218, mu218, mm219, mu219, mm220, mu220, mm221, mu221, mm222, mu222, mm223, mu223, mm224, mu224, mm225, mu225, mm226, mu226, mm227, mu227, mm228, mu228, mm229, mu229, mm230, mu230]
    refine day_wp (l := (talksR k P T (l, x, dn)).1) (k := k) (P := P) (S := S) ?h1 ?h2 ?h3
    case h1 => exact h1
    case h2 => exact hk.kept (fun i hi => h2 i (by omega))
    intro s2 h3 h4
    simp (disch := omega) [w264_98, w264_101, aw_st, ai_cls, ai_len, ai_p, ai_sw, ai_m, ai_c, ai_at, ai_isI, ai_isJ, ai_isA, ai_ld, ai_1i, ai_2i, ai_2l, ai_cn, ai_j, ai_set, ai_set2, ai_nl, ai_rs, ai_sm, Value.category, hk0, hk1, lits, litb, litm, litm2, or_n0, bit_r, fi0, fi1, fi2, fi3, nI_toInt, nI_add, pk_mul, nI_leI, nI_ltI, nI_eq, pk_sub, ib_nI, nI_clamp, va_up_self, va_up_ne, va_up_up, va_up_comm, pk_us, pk_un, upd_up, updL_up, pk_uLs, pk_uLn, b01_1, b01_0, b01_1s, b01_0s, or_b, mm200, mu200, mm201, mu201, mm202, mu202, mm203, mu203, mm204, mu204, mm205, mu205, mm206, mu206, mm207, mu207, mm208, mu208, mm209, mu209, mm210, mu210, mm211, mu211, mm212, mu212, mm213, mu213, mm214, mu214, mm215, mu215, mm216, mu216, mm217, mu217, mm218, mu218, mm219, mu219, mm220, mu220, mm221, mu221, mm222, mu222, mm223, mu223, mm224, mu224, mm225, mu225, mm226, mu226, mm227, mu227, mm228, mu228, mm229, mu229, mm230, mu230]
    refine ih (i + 1) _ (dayR k 0 P (talksR k P T (l, x, dn)).1) (talksR k P T (l, x, dn)).2.1 (talksR k P T (l, x, dn)).2.2 _ _ _ _ (by omega) ?_ ?_ ?_ ?_
    · rw [va_up_self]; exact h3
    · rw [va_up_self]; exact hk.kept (fun i hi => by rw [h4 i (by omega)]; exact h2 i (by omega))
    · simp [ups, va_up, upd]
    · intro s3 h5 h6
      rw [ups2]
      refine hQ s3 h5 (fun i hi => ?_)
      rw [h6 i hi, va_up_self, h4 i hi]
      exact h2 i hi
theorem years_wp {g T N : Nat} (hT : T ≤ 100) (hN : N ≤ 1000) (hP0 : 0 < P) (hg : g ≤ 9) (hgk : k 11 0 = nI g) {x : Int32} (hL : LSx (X 201) l) (hk : KS (X 201) k P S) (hQ : ∀ s', LSx s' (drawsR k P T N (l, x, 0)).1 → (∀ i, i < 132 ∨ 257 ≤ i → s' i = X 201 i) → Q [.int (drawsR k P T N (l, x, 0)).2.2] 231 sl (mem (ups X (drawsR k P T N (l, x, 0)).2.1 s') Y)) : aw ET G (d + 3) 264 0 [some (.ref 199), some (.int (nI N)), some (.int (nI T)), some (.int x), none, none, none, none, none, none] [] 231 sl (mem X Y) Q := by
  simp (disch := omega) [w264_0, w264_1, x264_2, w264_5, w264_6, w264_8, w264_9, w264_13, w264_14, w264_17, w264_18, w264_20, w264_22, w264_23, w264_26, w264_27, x264_28, w264_31, w264_32, x264_33, w264_36, w264_38, w264_39, x264_40, w264_43, w264_44, x264_45, w264_48, w264_50, w264_51, w264_52, x264_53, w264_56, w264_57, w264_59, w264_60, w264_62, w264_64, x264_66, w264_69, w264_72, w264_75, w264_76, w264_78, w264_80, x264_82, w264_85, w264_88, w264_91, w264_94, x264_95, w264_98, w264_101, w264_104, w264_106, rt264, aw_st, ai_cls, ai_len, ai_p, ai_sw, ai_m, ai_c, ai_at, ai_isI, ai_isJ, ai_isA, ai_ld, ai_1i, ai_2i, ai_2l, ai_cn, ai_j, ai_set, ai_set2, ai_nl, ai_rs, ai_sm, Value.category, hk0, hk1, lits, litb, litm, litm2, or_n0, bit_r, fi0, fi1, fi2, fi3, nI_toInt, nI_add, pk_mul, nI_leI, nI_ltI, nI_eq, pk_sub, ib_nI, nI_clamp, va_up_self, va_up_ne, va_up_up, va_up_comm, pk_us, pk_un, upd_up, updL_up, pk_uLs, pk_uLn, b01_1, b01_0, b01_1s, b01_0s, or_b, mm200, mu200, mm201, mu201, mm202, mu202, mm203, mu203, mm204, mu204, mm205, mu205, mm206, mu206, mm207, mu207, mm208, mu208, mm209, mu209, mm210, mu210, mm211, mu211, mm212, mu212, mm213, mu213, mm214, mu214, mm215, mu215, mm216, mu216, mm217, mu217, mm218, mu218, mm219, mu219, mm220, mu220, mm221, mu221, mm222, mu222, mm223, mu223, mm224, mu224, mm225, mu225, mm226, mu226, mm227, mu227, mm228, mu228, mm229, mu229, mm230, mu230]
  refine years_loop (T := T) (N := N) (P := P) (S := S) (k := k) hT hN hP0 hg hgk N 0 _ l x 0 _ _ _ _ (by omega) hL hk (by simp [va_up, upd]) ?_
  intro s' h1 h2
  rw [ups_x]
  exact hQ s' h1 h2
def okY (P : Nat) (l : Nat → Nat → Int32) (x y : Int32) : Bool := inI 1 60 x && (inI 1 9 y && (decide (0 < P) && decide (¬ 9999 < l 10 0 + x)))
set_option maxHeartbeats 8000000 in
theorem drawn_wp {g : Nat} (hg : g ≤ 9) (hgk : k 11 0 = nI g) (hL : LSx (X 201) l) (hk : KS (X 201) k P S) (hU : US (X 208) m ls) (hm : X 199 28 = nI m) {x y z : Int32} (hQ1 : okY P l x y = false → Q [.int mi1] 231 sl (mem (tz X) Y)) (hQ2 : ∀ N T, x = nI N → y = nI T → 1 ≤ N → N ≤ 60 → 1 ≤ T → T ≤ 9 → okY P l x y = true → ∀ s' u', LSx s' (drawsR k P T N (l, z, 0)).1 → (∀ i, i < 132 ∨ 257 ≤ i → s' i = X 201 i) → US u' (pushN m) (pushL m ls l) → Q [.int (drawsR k P T N (l, z, 0)).2.2] 231 sl (mem (ups (va_up (va_up X 199 (upd (upd (X 199) 0 0) 28 (nI (pushN m)))) 208 u') (drawsR k P T N (l, z, 0)).2.1 s') Y)) : aw ET G (d + 4) 263 0 [some (.ref 199), some (.int x), some (.int y), some (.int z)] [] 231 sl (mem X Y) Q := by
  have a1 := hL.1.1
  have k1 := hk.2.2.2.2.1
  have hP := hk.1
  cases hi : inI 1 60 x
  · have hi' : inI (nI 1) (nI 60) x = false := hi
    have := hQ1 (by unfold okY; rw [hi]; rfl)
    simp (disch := omega) [w263_0, w263_1, x263_2, w263_5, w263_6, w263_7, x263_9, w263_12, w263_15, w263_16, w263_17, x263_19, w263_22, w263_25, x263_26, w263_29, w263_30, w263_31, w263_34, x263_35, w263_38, w263_41, w263_42, w263_43, w263_44, w263_47, w263_50, w263_51, w263_52, x263_53, w263_56, w263_57, w263_58, w263_59, x263_60, w263_63, rt263, aw_st, ai_cls, ai_len, ai_p, ai_sw, ai_m, ai_c, ai_at, ai_isI, ai_isJ, ai_isA, ai_ld, ai_1i, ai_2i, ai_2l, ai_cn, ai_j, ai_set, ai_set2, ai_nl, ai_rs, ai_sm, Value.category, hk0, hk1, lits, litb, litm, litm2, or_n0, bit_r, fi0, fi1, fi2, fi3, nI_toInt, nI_add, pk_mul, nI_leI, nI_ltI, nI_eq, pk_sub, ib_nI, nI_clamp, va_up_self, va_up_ne, va_up_up, va_up_comm, pk_us, pk_un, upd_up, updL_up, pk_uLs, pk_uLn, b01_1, b01_0, b01_1s, b01_0s, or_b, mm200, mu200, mm201, mu201, mm202, mu202, mm203, mu203, mm204, mu204, mm205, mu205, mm206, mu206, mm207, mu207, mm208, mu208, mm209, mu209, mm210, mu210, mm211, mu211, mm212, mu212, mm213, mu213, mm214, mu214, mm215, mu215, mm216, mu216, mm217, mu217, mm218, mu218, mm219, mu219, mm220, mu220, mm221, mu221, mm222, mu222, mm223, mu223, mm224, mu224, mm225, mu225, mm226, mu226, mm227, mu227, mm228, mu228, mm229, mu229, mm230, mu230, isIn_eq, hi']
    exact this
  · have hi' : inI (nI 1) (nI 60) x = true := hi
    obtain ⟨N, c1, c2, rfl⟩ := inI_nat (lo := 1) (hi := 60) (by omega) (by omega) hi'
    cases hj : inI 1 9 y
    · have hj' : inI (nI 1) (nI 9) y = false := hj
      have := hQ1 (by unfold okY; rw [hi, hj]; rfl)
      simp (disch := omega) [w263_0, w263_1, x263_2, w263_5, w263_6, w263_7, x263_9, w263_12, w263_15, w263_16, w263_17, x263_19, w263_22, w263_25, x263_26, w263_29, w263_30, w263_31, w263_34, x263_35, w263_38, w263_41, w263_42, w263_43, w263_44, w263_47, w263_50, w263_51, w263_52, x263_53, w263_56, w263_57, w263_58, w263_59, x263_60, w263_63, rt263, aw_st, ai_cls, ai_len, ai_p, ai_sw, ai_m, ai_c, ai_at, ai_isI, ai_isJ, ai_isA, ai_ld, ai_1i, ai_2i, ai_2l, ai_cn, ai_j, ai_set, ai_set2, ai_nl, ai_rs, ai_sm, Value.category, hk0, hk1, lits, litb, litm, litm2, or_n0, bit_r, fi0, fi1, fi2, fi3, nI_toInt, nI_add, pk_mul, nI_leI, nI_ltI, nI_eq, pk_sub, ib_nI, nI_clamp, va_up_self, va_up_ne, va_up_up, va_up_comm, pk_us, pk_un, upd_up, updL_up, pk_uLs, pk_uLn, b01_1, b01_0, b01_1s, b01_0s, or_b, mm200, mu200, mm201, mu201, mm202, mu202, mm203, mu203, mm204, mu204, mm205, mu205, mm206, mu206, mm207, mu207, mm208, mu208, mm209, mu209, mm210, mu210, mm211, mu211, mm212, mu212, mm213, mu213, mm214, mu214, mm215, mu215, mm216, mu216, mm217, mu217, mm218, mu218, mm219, mu219, mm220, mu220, mm221, mu221, mm222, mu222, mm223, mu223, mm224, mu224, mm225, mu225, mm226, mu226, mm227, mu227, mm228, mu228, mm229, mu229, mm230, mu230, isIn_eq, hi', hj']
      exact this
    · have hj' : inI (nI 1) (nI 9) y = true := hj
      obtain ⟨T, t1, t2, rfl⟩ := inI_nat (lo := 1) (hi := 9) (by omega) (by omega) hj'
      by_cases hp : P = 0
      · have := hQ1 (by unfold okY; rw [hi, hj]; simp [hp])
        simp (disch := omega) [w263_0, w263_1, x263_2, w263_5, w263_6, w263_7, x263_9, w263_12, w263_15, w263_16, w263_17, x263_19, w263_22, w263_25, x263_26, w263_29, w263_30, w263_31, w263_34, x263_35, w263_38, w263_41, w263_42, w263_43, w263_44, w263_47, w263_50, w263_51, w263_52, x263_53, w263_56, w263_57, w263_58, w263_59, x263_60, w263_63, rt263, aw_st, ai_cls, ai_len, ai_p, ai_sw, ai_m, ai_c, ai_at, ai_isI, ai_isJ, ai_isA, ai_ld, ai_1i, ai_2i, ai_2l, ai_cn, ai_j, ai_set, ai_set2, ai_nl, ai_rs, ai_sm, Value.category, hk0, hk1, lits, litb, litm, litm2, or_n0, bit_r, fi0, fi1, fi2, fi3, nI_toInt, nI_add, pk_mul, nI_leI, nI_ltI, nI_eq, pk_sub, ib_nI, nI_clamp, va_up_self, va_up_ne, va_up_up, va_up_comm, pk_us, pk_un, upd_up, updL_up, pk_uLs, pk_uLn, b01_1, b01_0, b01_1s, b01_0s, or_b, mm200, mu200, mm201, mu201, mm202, mu202, mm203, mu203, mm204, mu204, mm205, mu205, mm206, mu206, mm207, mu207, mm208, mu208, mm209, mu209, mm210, mu210, mm211, mu211, mm212, mu212, mm213, mu213, mm214, mu214, mm215, mu215, mm216, mu216, mm217, mu217, mm218, mu218, mm219, mu219, mm220, mu220, mm221, mu221, mm222, mu222, mm223, mu223, mm224, mu224, mm225, mu225, mm226, mu226, mm227, mu227, mm228, mu228, mm229, mu229, mm230, mu230, isIn_eq, hi', hj', k1, hp]
        exact this
      · rcases lt_or (nI 9999) (l 10 0 + nI N) with ⟨g1, g2⟩ | ⟨g1, g2⟩
        · have := hQ1 (by unfold okY; rw [hi, hj]; simp [show (9999 : Int32) < l 10 0 + nI N from g1])
          simp (disch := omega) [w263_0, w263_1, x263_2, w263_5, w263_6, w263_7, x263_9, w263_12, w263_15, w263_16, w263_17, x263_19, w263_22, w263_25, x263_26, w263_29, w263_30, w263_31, w263_34, x263_35, w263_38, w263_41, w263_42, w263_43, w263_44, w263_47, w263_50, w263_51, w263_52, x263_53, w263_56, w263_57, w263_58, w263_59, x263_60, w263_63, rt263, aw_st, ai_cls, ai_len, ai_p, ai_sw, ai_m, ai_c, ai_at, ai_isI, ai_isJ, ai_isA, ai_ld, ai_1i, ai_2i, ai_2l, ai_cn, ai_j, ai_set, ai_set2, ai_nl, ai_rs, ai_sm, Value.category, hk0, hk1, lits, litb, litm, litm2, or_n0, bit_r, fi0, fi1, fi2, fi3, nI_toInt, nI_add, pk_mul, nI_leI, nI_ltI, nI_eq, pk_sub, ib_nI, nI_clamp, va_up_self, va_up_ne, va_up_up, va_up_comm, pk_us, pk_un, upd_up, updL_up, pk_uLs, pk_uLn, b01_1, b01_0, b01_1s, b01_0s, or_b, mm200, mu200, mm201, mu201, mm202, mu202, mm203, mu203, mm204, mu204, mm205, mu205, mm206, mu206, mm207, mu207, mm208, mu208, mm209, mu209, mm210, mu210, mm211, mu211, mm212, mu212, mm213, mu213, mm214, mu214, mm215, mu215, mm216, mu216, mm217, mu217, mm218, mu218, mm219, mu219, mm220, mu220, mm221, mu221, mm222, mu222, mm223, mu223, mm224, mu224, mm225, mu225, mm226, mu226, mm227, mu227, mm228, mu228, mm229, mu229, mm230, mu230, isIn_eq, hi', hj', k1, hp, a1, g2]
          exact this
        · simp (disch := omega) [w263_0, w263_1, x263_2, w263_5, w263_6, w263_7, x263_9, w263_12, w263_15, w263_16, w263_17, x263_19, w263_22, w263_25, x263_26, w263_29, w263_30, w263_31, w263_34, x263_35, w263_38, w263_41, w263_42, w263_43, w263_44, w263_47, w263_50, w263_51, w263_52, x263_53, w263_56, w263_57, w263_58, w263_59, x263_60, w263_63, rt263, aw_st, ai_cls, ai_len, ai_p, ai_sw, ai_m, ai_c, ai_at, ai_isI, ai_isJ, ai_isA, ai_ld, ai_1i, ai_2i, ai_2l, ai_cn, ai_j, ai_set, ai_set2, ai_nl, ai_rs, ai_sm, Value.category, hk0, hk1, lits, litb, litm, litm2, or_n0, bit_r, fi0, fi1, fi2, fi3, nI_toInt, nI_add, pk_mul, nI_leI, nI_ltI, nI_eq, pk_sub, ib_nI, nI_clamp, va_up_self, va_up_ne, va_up_up, va_up_comm, pk_us, pk_un, upd_up, updL_up, pk_uLs, pk_uLn, b01_1, b01_0, b01_1s, b01_0s, or_b, mm200, mu200, mm201, mu201, mm202, mu202, mm203, mu203, mm204, mu204, mm205, mu205, mm206, mu206, mm207, mu207, mm208, mu208, mm209, mu209, mm210, mu210, mm211, mu211, mm212, mu212, mm213, mu213, mm214, mu214, mm215, mu215, mm216, mu216, mm217, mu217, mm218, mu218, mm219, mu219, mm220, mu220, mm221, mu221, mm222, mu222, mm223, mu223, mm224, mu224, mm225, mu225, mm226, mu226, mm227, mu227, mm228, mu228, mm229, mu229, mm230, mu230, isIn_eq, hi', hj', k1, hp, a1, g2]
          apply keep_wp (X := (va_up X 199 (upd (X 199) 0 (nI 0)))) hU hm hL
          intro u' hu
          simp (disch := omega) [w263_0, w263_1, x263_2, w263_5, w263_6, w263_7, x263_9, w263_12, w263_15, w263_16, w263_17, x263_19, w263_22, w263_25, x263_26, w263_29, w263_30, w263_31, w263_34, x263_35, w263_38, w263_41, w263_42, w263_43, w263_44, w263_47, w263_50, w263_51, w263_52, x263_53, w263_56, w263_57, w263_58, w263_59, x263_60, w263_63, rt263, aw_st, ai_cls, ai_len, ai_p, ai_sw, ai_m, ai_c, ai_at, ai_isI, ai_isJ, ai_isA, ai_ld, ai_1i, ai_2i, ai_2l, ai_cn, ai_j, ai_set, ai_set2, ai_nl, ai_rs, ai_sm, Value.category, hk0, hk1, lits, litb, litm, litm2, or_n0, bit_r, fi0, fi1, fi2, fi3, nI_toInt, nI_add, pk_mul, nI_leI, nI_ltI, nI_eq, pk_sub, ib_nI, nI_clamp, va_up_self, va_up_ne, va_up_up, va_up_comm, pk_us, pk_un, upd_up, updL_up, pk_uLs, pk_uLn, b01_1, b01_0, b01_1s, b01_0s, or_b, mm200, mu200, mm201, mu201, mm202, mu202, mm203, mu203, mm204, mu204, mm205, mu205, mm206, mu206, mm207, mu207, mm208, mu208, mm209, mu209, mm210, mu210, mm211, mu211, mm212, mu212, mm213, mu213, mm214, mu214, mm215, mu215, mm216, mu216, mm217, mu217, mm218, mu218, mm219, mu219, mm220, mu220, mm221, mu221, mm222, mu222, mm223, mu223, mm224, mu224, mm225, mu225, mm226, mu226, mm227, mu227, mm228, mu228, mm229, mu229, mm230, mu230]
          refine years_wp (T := T) (N := N) (l := l) (k := k) (P := P) (S := S) (by omega) (by omega) (by omega) hg hgk ?h1 ?h2 ?h3
          case h1 => exact hL
          case h2 => exact hk
          intro s' h1 h2
          simp (disch := omega) [w263_0, w263_1, x263_2, w263_5, w263_6, w263_7, x263_9, w263_12, w263_15, w263_16, w263_17, x263_19, w263_22, w263_25, x263_26, w263_29, w263_30, w263_31, w263_34, x263_35, w263_38, w263_41, w263_42, w263_43, w263_44, w263_47, w263_50, w263_51, w263_52, x263_53, w263_56, w263_57, w263_58, w263_59, x263_60, w263_63, rt263, aw_st, ai_cls, ai_len, ai_p, ai_sw, ai_m, ai_c, ai_at, ai_isI, ai_isJ, ai_isA, ai_ld, ai_1i, ai_2i, ai_2l, ai_cn, ai_j, ai_set, ai_set2, ai_nl, ai_rs, ai_sm, Value.category, hk0, hk1, lits, litb, litm, litm2, or_n0, bit_r, fi0, fi1, fi2, fi3, nI_toInt, nI_add, pk_mul, nI_leI, nI_ltI, nI_eq, pk_sub, ib_nI, nI_clamp, va_up_self, va_up_ne, va_up_up, va_up_comm, pk_us, pk_un, upd_up, updL_up, pk_uLs, pk_uLn, b01_1, b01_0, b01_1s, b01_0s, or_b, mm200, mu200, mm201, mu201, mm202, mu202, mm203, mu203, mm204, mu204, mm205, mu205, mm206, mu206, mm207, mu207, mm208, mu208, mm209, mu209, mm210, mu210, mm211, mu211, mm212, mu212, mm213, mu213, mm214, mu214, mm215, mu215, mm216, mu216, mm217, mu217, mm218, mu218, mm219, mu219, mm220, mu220, mm221, mu221, mm222, mu222, mm223, mu223, mm224, mu224, mm225, mu225, mm226, mu226, mm227, mu227, mm228, mu228, mm229, mu229, mm230, mu230]
          exact hQ2 N T rfl rfl c1 c2 t1 t2 (by unfold okY; rw [hi, hj]; simp [show l 10 0 + nI N ≤ (9999 : Int32) from g2]; omega) s' u' h1 h2 hu
end RFK
