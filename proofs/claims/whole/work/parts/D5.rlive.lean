/-! BOOK: the reference, lived -/
section RBQ
variable {G : ai_G} {d sl : Nat} {Q : List Value → Nat → Nat → ai_M → Prop} {Y : mY} {X : mX} {P S m q : Nat} {B : BL} {L : BLn} {l l' k : Nat → Nat → Int32}
theorem sum_step (a b s e : Int32) : (a + e) - s = (a - s) + e := by
  rw [Int32.sub_eq_add_neg, Int32.sub_eq_add_neg, Int32.add_assoc, Int32.add_comm e, Int32.add_assoc]
theorem liveS_pos : (liveS k P L l).1 = nI 0 ∨ nI 0 < (liveS k P L l).1 := by
  unfold liveS
  split
  · split
    · exact Or.inl rfl
    · rename_i h
      exact Or.inr (Int32.not_le.mp (whyI_pos h))
  · split
    · split
      · exact Or.inl rfl
      · refine Or.inr ?_
        show nI 0 < nI 10 + tellI l _ _ _
        unfold tellI
        (repeat' split) <;> decide
    · split
      · split
        · exact Or.inr (show nI 0 < nI 20 by decide)
        · exact Or.inl rfl
      · exact Or.inl rfl
theorem dayS_3 {p : Nat} : dayS l k p 3 = l 3 := by
  unfold dayS dayA
  split <;> simp [vf_upd]
theorem dayR_3 : ∀ (r p : Nat) (l : Nat → Nat → Int32), dayR k p r l 3 = l 3 := by
  intro r
  induction r with
  | zero => intro p l; unfold dayR; simp [vf_upd]
  | succ r ih => intro p l; unfold dayR; rw [ih]; exact dayS_3
theorem daysR_3 : ∀ (r : Nat) (l : Nat → Nat → Int32), daysR k P r l 3 = l 3 := by
  intro r
  induction r with
  | zero => intro l; rfl
  | succ r ih => intro l; unfold daysR; rw [ih]; exact dayR_3 _ _ _
/-- the hours heard -/
theorem liveS_h (hok : okL P S L) (hP : P ≤ 8) : rsum ((liveS k P L l).2.1 3) 0 8 0 = rsum (l 3) 0 8 0 + (liveS k P L l).2.2.1 := by
  have z : ∀ x : Int32, x = x + nI 0 := fun x => (add0 x).symm
  unfold liveS
  split
  · rename_i t0
    have ta : L.2.1 < 8 := by rcases hok with h | h | h | h <;> first | omega | (rw [h] at t0; simp at t0)
    split
    · show rsum (hearL l k L.2.1 L.2.2.1 (nI L.2.2.2) 3) 0 8 0 = _
      have : hearL l k L.2.1 L.2.2.1 (nI L.2.2.2) 3 = upd (l 3) L.2.1 (l 3 L.2.1 + nI L.2.2.2) := by
        unfold hearL hearB hearA
        split <;> simp [vf_upd]
      rw [this]
      exact rsum_upd _ ta _
    · exact z _
  · split
    · split
      · show rsum (tellL l k L.2.1 L.2.2.1 L.2.2.2 3) 0 8 0 = _
        have : tellL l k L.2.1 L.2.2.1 L.2.2.2 3 = l 3 := by unfold tellL; simp [vf_upd]
        rw [this]
        exact z _
      · exact z _
    · split
      · split
        · exact z _
        · show rsum (daysR k P L.2.2.2 l 3) 0 8 0 = _
          rw [daysR_3]
          exact z _
      · show rsum (stkL P l 3) 0 8 0 = _
        have : stkL P l 3 = l 3 := by unfold stkL; simp [vf_upd]
        rw [this]
        exact z _
theorem LI_liveS {B0 T : Nat} (hC : CI k P S) (hok : okL P S L) (hP : P ≤ 8) (hS : S ≤ 8) (hI : LI l B0 T) (hB : B0 < 2 ^ 29) (hT : T ≤ 33554431) : LI (liveS k P L l).2.1 (B0 + 99) (T + 1) := by
  obtain ⟨⟨g, hg, hgk⟩, c2, c3, c4, c5, c6, c7⟩ := hC
  have h0 : LI l (B0 + 99) (T + 1) := hI.mono (by omega) (by omega)
  rcases hok with ⟨t0, ta, tb, tz1, tz⟩ | ⟨t0, ta, tb, tz⟩ | ⟨t0, ta, tb, tz1, tz⟩ | t0
  · unfold liveS
    rw [if_pos t0]
    split
    · rename_i hw
      exact (LI_hear hI hB hg hgk (by omega) (by omega) tz hw).mono (by omega) (by omega)
    · exact h0
  · unfold liveS
    rw [if_neg (by omega), if_pos t0]
    split
    · obtain ⟨w, hw, ew⟩ := c5 _ tz
      obtain ⟨f, hf, ef⟩ := c6 _ tz
      exact LI_tell hI hB hT hw hf ew ef (by omega) (by omega) (by omega)
    · exact h0
  · unfold liveS
    rw [if_neg (by omega), if_neg (by omega), if_pos t0]
    split
    · exact h0
    · exact LI_days _ _ hP h0 c3 c4
  · unfold liveS
    rw [t0]
    simp only [show ¬ (3 : Nat) = 0 by omega, show ¬ (3 : Nat) = 1 by omega, show ¬ (3 : Nat) = 2 by omega, if_false]
    exact LI_stk h0 hP (by omega)
theorem LI_liveR {B0 T : Nat} (hC : CI k P S) (hP : P ≤ 8) (hS : S ≤ 8) : ∀ (r q B0 T : Nat) (l : Nat → Nat → Int32) (h g : Int32), BB B (q + r) P S → LI l B0 T → B0 + 99 * r < 2 ^ 29 → T + r ≤ 33554431 → LI (liveR k P B r q l h g).2.2.2.1 (B0 + 99 * r) (T + r) := by
  intro r
  induction r with
  | zero => intro q B0 T l h g _ hI _ _; exact hI
  | succ r ih =>
    intro q B0 T l h g hB hI h1 h2
    unfold liveR
    split
    · have := ih (q + 1) (B0 + 99) (T + 1) (liveS k P (B q) l).2.1 (h + (liveS k P (B q) l).2.2.1) (g + (liveS k P (B q) l).2.2.2) (fun j hj => hB j (by omega)) (LI_liveS hC (hB q (by omega)) hP hS hI (by omega) (by omega)) (by omega) (by omega)
      exact this.mono (by omega) (by omega)
    · exact hI.mono (by omega) (by omega)
/-- what the whole BOOK lived leaves as it was -/
def RGy (X X' : mX) : Prop := (∀ j, ¬ j = 199 → ¬ j = 201 → ¬ j = 206 → ¬ j = 224 → X' j = X j) ∧ (∀ i, i < 132 ∨ 257 ≤ i → X' 201 i = X 201 i) ∧ (∀ j, ¬ j = 25 → ¬ j = 52 → X' 199 j = X 199 j)
theorem RGy.tr {X' X2 : mX} (h : RGy X X') (g : RGy X' X2) : RGy X X2 := ⟨fun j a b c e => (g.1 j a b c e).trans (h.1 j a b c e), fun i a => (g.2.1 i a).trans (h.2.1 i a), fun j a b => (g.2.2 j a b).trans (h.2.2 j a b)⟩
theorem RGx.y {X' : mX} (h : RGx X X') : RGy X X' := ⟨fun j a b c _ => h.1 j a b c, h.2.1, h.2.2⟩
theorem RGy_224 {f : Nat → Int32} : RGy X (va_up X 224 f) := ⟨fun j a b c e => va_up_ne _ _ e, fun i a => by rw [va_up_ne _ _ (by omega)], fun j a b => by rw [va_up_ne _ _ (by omega)]⟩
set_option maxHeartbeats 8000000 in
theorem rlv_loop {v1 : Option Value} {s0 : Int32} (hC : CI k P S) (hP : P ≤ 8) (hS : S ≤ 8) (hB : BB B m P S) (hm : m ≤ 30) : ∀ (r q B0 T : Nat) (X : mX) (l : Nat → Nat → Int32) (h g : Int32), q + r = m → LSx (X 201) l → KS (X 201) k P S → LI l B0 T → B0 + 99 * r < 2 ^ 29 → T + r ≤ 33554431 → CR (X 203) B m → X 199 51 = nI m → X 199 52 = g → X 224 0 = nI 0 → X 224 1 = nI q → X 201 133 - s0 = h → (∀ X' v4, LSx (X' 201) (liveR k P B r q l h g).2.2.2.1 → RGy X X' → X' 224 0 = (liveR k P B r q l h g).2.1 → X' 224 1 = nI (liveR k P B r q l h g).2.2.1 → X' 199 52 = (liveR k P B r q l h g).2.2.2.2.2 → X' 201 133 - s0 = (liveR k P B r q l h g).2.2.2.2.1 → aw ET G (d + 5) 271 184 [some (.ref 199), v1, some (.int s0), some (.int (liveR k P B r q l h g).1), some (.int v4)] [] 231 sl (mem X' Y) Q) → aw ET G (d + 5) 271 126 [some (.ref 199), v1, some (.int s0), some (.int mi1), some (.int (nI q))] [] 231 sl (mem X Y) Q := by
  intro r
  induction r with
  | zero =>
    intro q B0 T X l h g hq hL hk hI hb ht hc h51 h52 e0 e1 hs hQ
    have := hQ X (nI q) hL ⟨fun _ _ _ _ _ => rfl, fun _ _ => rfl, fun _ _ _ => rfl⟩ e0 e1 h52 hs
    rw [w271_126]
    simp (disch := omega) [w271_128, x271_129, w271_132, rt271, aw_st, ai_cls, ai_len, ai_p, ai_sw, ai_m, ai_c, ai_at, ai_isI, ai_isJ, ai_isA, ai_ld, ai_1i, ai_2i, ai_2l, ai_cn, ai_j, ai_set, ai_set2, ai_nl, ai_rs, ai_sm, Value.category, hk0, hk1, lits, litb, litm, litm2, List.getElem?_cons_zero, List.getElem?_cons_succ, or_n0, bit_r, fi0, fi1, fi2, fi3, nI_toInt, nI_add, pk_mul, nI_leI, nI_ltI, nI_eq, pk_sub, ib_nI, nI_clamp, va_up_self, va_up_ne, va_up_up, va_up_comm, pk_us, pk_un, upd_up, updL_up, pk_uLs, pk_uLn, b01_1, b01_0, b01_1s, b01_0s, or_b, mm200, mu200, mm201, mu201, mm202, mu202, mm203, mu203, mm204, mu204, mm205, mu205, mm206, mu206, mm207, mu207, mm208, mu208, mm209, mu209, mm210, mu210, mm211, mu211, mm212, mu212, mm213, mu213, mm214, mu214, mm215, mu215, mm216, mu216, mm217, mu217, mm218, mu218, mm219, mu219, mm220, mu220, mm221, mu221, mm222, mu222, mm223, mu223, mm224, mu224, mm225, mu225, mm226, mu226, mm227, mu227, mm228, mu228, mm229, mu229, mm230, mu230, h51, show ¬ q < m by omega, show m ≤ q by omega]
    exact this
  | succ r ih =>
    intro q B0 T X l h g hq hL hk hI hb ht hc h51 h52 e0 e1 hs hQ
    have es : liveR k P B (r + 1) q l h g = if (liveS k P (B q) l).1 = nI 0 then liveR k P B r (q + 1) (liveS k P (B q) l).2.1 (h + (liveS k P (B q) l).2.2.1) (g + (liveS k P (B q) l).2.2.2) else (nI q, (liveS k P (B q) l).1, q, l, h, g) := rfl
    rw [es] at hQ
    have hmi : mi1 < nI 0 := by decide
    have hmi2 : ¬ nI 0 ≤ mi1 := by decide
    rw [w271_126]
    simp (disch := omega) [w271_128, x271_129, w271_132, w271_135, w271_136, w271_139, x271_140, w271_143, w271_144, w271_145, w271_146, w271_148, x271_149, rt271, aw_st, ai_cls, ai_len, ai_p, ai_sw, ai_m, ai_c, ai_at, ai_isI, ai_isJ, ai_isA, ai_ld, ai_1i, ai_2i, ai_2l, ai_cn, ai_j, ai_set, ai_set2, ai_nl, ai_rs, ai_sm, Value.category, hk0, hk1, lits, litb, litm, litm2, List.getElem?_cons_zero, List.getElem?_cons_succ, or_n0, bit_r, fi0, fi1, fi2, fi3, nI_toInt, nI_add, pk_mul, nI_leI, nI_ltI, nI_eq, pk_sub, ib_nI, nI_clamp, va_up_self, va_up_ne, va_up_up, va_up_comm, pk_us, pk_un, upd_up, updL_up, pk_uLs, pk_uLn, b01_1, b01_0, b01_1s, b01_0s, or_b, mm200, mu200, mm201, mu201, mm202, mu202, mm203, mu203, mm204, mu204, mm205, mu205, mm206, mu206, mm207, mu207, mm208, mu208, mm209, mu209, mm210, mu210, mm211, mu211, mm212, mu212, mm213, mu213, mm214, mu214, mm215, mu215, mm216, mu216, mm217, mu217, mm218, mu218, mm219, mu219, mm220, mu220, mm221, mu221, mm222, mu222, mm223, mu223, mm224, mu224, mm225, mu225, mm226, mu226, mm227, mu227, mm228, mu228, mm229, mu229, mm230, mu230, h51, hmi, hmi2, show q < m by omega, show ¬ m ≤ q by omega]
    refine does_wp (d := d) (B0 := B0) (T := T) hL hk hC hI (by omega) (by omega) (hc q (by omega)) (hB q (by omega)) (fun X1 hL1 g1 f52 => ?_)
    have o224 : X1 224 = X 224 := g1.1 224 (by omega) (by omega) (by omega)
    have o0 : X1 224 0 = nI 0 := by rw [o224]; exact e0
    have o1 : X1 224 1 = nI q := by rw [o224]; exact e1
    have o51 : X1 199 51 = nI m := by rw [g1.2.2 51 (by omega) (by omega)]; exact h51
    have hs1 : X1 201 133 - s0 = h + (liveS k P (B q) l).2.2.1 := by
      rw [hL1.2, liveS_h (hB q (by omega)) hP, ← hL.2, sum_step _ 0, hs]
    by_cases z : (liveS k P (B q) l).1 = nI 0
    · rw [if_pos z] at hQ
      generalize hz2 : va_up X1 224 (upd (upd (X1 224) 0 (nI 0)) 1 (nI (q + 1))) = Z
      have zo : ∀ j, ¬ j = 224 → Z j = X1 j := fun j hj => by rw [← hz2, va_up_ne _ _ hj]
      have z224 : Z 224 = upd (upd (X1 224) 0 (nI 0)) 1 (nI (q + 1)) := by rw [← hz2, va_up_self]
      have gz : RGy X Z := g1.y.tr (by rw [← hz2]; exact RGy_224)
      have := ih (q + 1) (B0 + 99) (T + 1) Z (liveS k P (B q) l).2.1 (h + (liveS k P (B q) l).2.2.1) (g + (liveS k P (B q) l).2.2.2) (by omega) (by rw [zo 201 (by omega)]; exact hL1) (KS_rg hk gz.2.1) (LI_liveS hC (hB q (by omega)) hP hS hI (by omega) (by omega)) (by omega) (by omega) (by rw [zo 203 (by omega), g1.1 203 (by omega) (by omega) (by omega)]; exact hc) (by rw [zo 199 (by omega)]; exact o51) (by rw [zo 199 (by omega), f52, h52]) (by rw [z224]; simp [upd]) (by rw [z224]; simp [upd]) (by rw [zo 201 (by omega)]; exact hs1) (fun X' v4 a b c e f g => hQ X' v4 a (gz.tr b) c e f g)
      simp (disch := omega) [w271_152, w271_153, x271_154, w271_157, w271_158, w271_159, w271_162, w271_164, w271_165, w271_168, x271_169, w271_172, w271_173, w271_174, w271_175, w271_176, w271_177, w271_178, w271_181, rt271, aw_st, ai_cls, ai_len, ai_p, ai_sw, ai_m, ai_c, ai_at, ai_isI, ai_isJ, ai_isA, ai_ld, ai_1i, ai_2i, ai_2l, ai_cn, ai_j, ai_set, ai_set2, ai_nl, ai_rs, ai_sm, Value.category, hk0, hk1, lits, litb, litm, litm2, List.getElem?_cons_zero, List.getElem?_cons_succ, or_n0, bit_r, fi0, fi1, fi2, fi3, nI_toInt, nI_add, pk_mul, nI_leI, nI_ltI, nI_eq, pk_sub, ib_nI, nI_clamp, va_up_self, va_up_ne, va_up_up, va_up_comm, pk_us, pk_un, upd_up, updL_up, pk_uLs, pk_uLn, b01_1, b01_0, b01_1s, b01_0s, or_b, mm200, mu200, mm201, mu201, mm202, mu202, mm203, mu203, mm204, mu204, mm205, mu205, mm206, mu206, mm207, mu207, mm208, mu208, mm209, mu209, mm210, mu210, mm211, mu211, mm212, mu212, mm213, mu213, mm214, mu214, mm215, mu215, mm216, mu216, mm217, mu217, mm218, mu218, mm219, mu219, mm220, mu220, mm221, mu221, mm222, mu222, mm223, mu223, mm224, mu224, mm225, mu225, mm226, mu226, mm227, mu227, mm228, mu228, mm229, mu229, mm230, mu230, mm224, mu224, z, o1]
      rw [hz2]
      exact this
    · rw [if_neg z] at hQ
      have zp : nI 0 < (liveS k P (B q) l).1 := (liveS_pos (k := k) (P := P) (L := B q) (l := l)).resolve_left z
      have hs2 : (liveS k P (B q) l).2.1 = l ∧ (liveS k P (B q) l).2.2 = (nI 0, nI 0) := by
        revert z
        unfold liveS
        (repeat' split) <;> intro z <;> first | exact ⟨rfl, rfl⟩ | exact absurd rfl z
      rw [hs2.1] at hL1
      rw [hs2.2] at f52 hs1
      generalize hz2 : va_up X1 224 (upd (X1 224) 0 (liveS k P (B q) l).1) = Z
      have zo : ∀ j, ¬ j = 224 → Z j = X1 j := fun j hj => by rw [← hz2, va_up_ne _ _ hj]
      have z224 : Z 224 = upd (X1 224) 0 (liveS k P (B q) l).1 := by rw [← hz2, va_up_self]
      have gz : RGy X Z := g1.y.tr (by rw [← hz2]; exact RGy_224)
      have z51 : Z 199 51 = nI m := by rw [zo 199 (by omega)]; exact o51
      have := hQ Z (nI (q + 1)) (by rw [zo 201 (by omega)]; exact hL1) gz (by rw [z224]; simp [upd]) (by rw [z224, pk_un (by omega)]; exact o1) (by rw [zo 199 (by omega), f52, h52]; exact add0 _) (by rw [zo 201 (by omega), hs1]; exact add0 _)
      have zp' : ¬ (liveS k P (B q) l).1 ≤ nI 0 := Int32.not_le.mpr zp
      have hq0 : ¬ nI q < nI 0 := by rw [nI_ltI (by omega) (by omega)]; omega
      by_cases c : q + 1 < m
      · simp (disch := omega) [w271_152, w271_153, x271_154, w271_157, w271_158, w271_159, w271_162, w271_164, w271_165, w271_178, w271_181, rt271, aw_st, ai_cls, ai_len, ai_p, ai_sw, ai_m, ai_c, ai_at, ai_isI, ai_isJ, ai_isA, ai_ld, ai_1i, ai_2i, ai_2l, ai_cn, ai_j, ai_set, ai_set2, ai_nl, ai_rs, ai_sm, Value.category, hk0, hk1, lits, litb, litm, litm2, List.getElem?_cons_zero, List.getElem?_cons_succ, or_n0, bit_r, fi0, fi1, fi2, fi3, nI_toInt, nI_add, pk_mul, nI_leI, nI_ltI, nI_eq, pk_sub, ib_nI, nI_clamp, va_up_self, va_up_ne, va_up_up, va_up_comm, pk_us, pk_un, upd_up, updL_up, pk_uLs, pk_uLn, b01_1, b01_0, b01_1s, b01_0s, or_b, mm200, mu200, mm201, mu201, mm202, mu202, mm203, mu203, mm204, mu204, mm205, mu205, mm206, mu206, mm207, mu207, mm208, mu208, mm209, mu209, mm210, mu210, mm211, mu211, mm212, mu212, mm213, mu213, mm214, mu214, mm215, mu215, mm216, mu216, mm217, mu217, mm218, mu218, mm219, mu219, mm220, mu220, mm221, mu221, mm222, mu222, mm223, mu223, mm224, mu224, mm225, mu225, mm226, mu226, mm227, mu227, mm228, mu228, mm229, mu229, mm230, mu230, mm224, mu224, zp']
        rw [hz2, w271_126]
        simp (disch := omega) [w271_128, x271_129, w271_132, w271_135, w271_136, rt271, aw_st, ai_cls, ai_len, ai_p, ai_sw, ai_m, ai_c, ai_at, ai_isI, ai_isJ, ai_isA, ai_ld, ai_1i, ai_2i, ai_2l, ai_cn, ai_j, ai_set, ai_set2, ai_nl, ai_rs, ai_sm, Value.category, hk0, hk1, lits, litb, litm, litm2, List.getElem?_cons_zero, List.getElem?_cons_succ, or_n0, bit_r, fi0, fi1, fi2, fi3, nI_toInt, nI_add, pk_mul, nI_leI, nI_ltI, nI_eq, pk_sub, ib_nI, nI_clamp, va_up_self, va_up_ne, va_up_up, va_up_comm, pk_us, pk_un, upd_up, updL_up, pk_uLs, pk_uLn, b01_1, b01_0, b01_1s, b01_0s, or_b, mm200, mu200, mm201, mu201, mm202, mu202, mm203, mu203, mm204, mu204, mm205, mu205, mm206, mu206, mm207, mu207, mm208, mu208, mm209, mu209, mm210, mu210, mm211, mu211, mm212, mu212, mm213, mu213, mm214, mu214, mm215, mu215, mm216, mu216, mm217, mu217, mm218, mu218, mm219, mu219, mm220, mu220, mm221, mu221, mm222, mu222, mm223, mu223, mm224, mu224, mm225, mu225, mm226, mu226, mm227, mu227, mm228, mu228, mm229, mu229, mm230, mu230, z51, c, show ¬ m ≤ q + 1 by omega, hq0]
        exact this
      · simp (disch := omega) [w271_152, w271_153, x271_154, w271_157, w271_158, w271_159, w271_162, w271_164, w271_165, w271_178, w271_181, rt271, aw_st, ai_cls, ai_len, ai_p, ai_sw, ai_m, ai_c, ai_at, ai_isI, ai_isJ, ai_isA, ai_ld, ai_1i, ai_2i, ai_2l, ai_cn, ai_j, ai_set, ai_set2, ai_nl, ai_rs, ai_sm, Value.category, hk0, hk1, lits, litb, litm, litm2, List.getElem?_cons_zero, List.getElem?_cons_succ, or_n0, bit_r, fi0, fi1, fi2, fi3, nI_toInt, nI_add, pk_mul, nI_leI, nI_ltI, nI_eq, pk_sub, ib_nI, nI_clamp, va_up_self, va_up_ne, va_up_up, va_up_comm, pk_us, pk_un, upd_up, updL_up, pk_uLs, pk_uLn, b01_1, b01_0, b01_1s, b01_0s, or_b, mm200, mu200, mm201, mu201, mm202, mu202, mm203, mu203, mm204, mu204, mm205, mu205, mm206, mu206, mm207, mu207, mm208, mu208, mm209, mu209, mm210, mu210, mm211, mu211, mm212, mu212, mm213, mu213, mm214, mu214, mm215, mu215, mm216, mu216, mm217, mu217, mm218, mu218, mm219, mu219, mm220, mu220, mm221, mu221, mm222, mu222, mm223, mu223, mm224, mu224, mm225, mu225, mm226, mu226, mm227, mu227, mm228, mu228, mm229, mu229, mm230, mu230, mm224, mu224, zp']
        rw [hz2, w271_126]
        simp (disch := omega) [w271_128, x271_129, w271_132, w271_135, w271_136, rt271, aw_st, ai_cls, ai_len, ai_p, ai_sw, ai_m, ai_c, ai_at, ai_isI, ai_isJ, ai_isA, ai_ld, ai_1i, ai_2i, ai_2l, ai_cn, ai_j, ai_set, ai_set2, ai_nl, ai_rs, ai_sm, Value.category, hk0, hk1, lits, litb, litm, litm2, List.getElem?_cons_zero, List.getElem?_cons_succ, or_n0, bit_r, fi0, fi1, fi2, fi3, nI_toInt, nI_add, pk_mul, nI_leI, nI_ltI, nI_eq, pk_sub, ib_nI, nI_clamp, va_up_self, va_up_ne, va_up_up, va_up_comm, pk_us, pk_un, upd_up, updL_up, pk_uLs, pk_uLn, b01_1, b01_0, b01_1s, b01_0s, or_b, mm200, mu200, mm201, mu201, mm202, mu202, mm203, mu203, mm204, mu204, mm205, mu205, mm206, mu206, mm207, mu207, mm208, mu208, mm209, mu209, mm210, mu210, mm211, mu211, mm212, mu212, mm213, mu213, mm214, mu214, mm215, mu215, mm216, mu216, mm217, mu217, mm218, mu218, mm219, mu219, mm220, mu220, mm221, mu221, mm222, mu222, mm223, mu223, mm224, mu224, mm225, mu225, mm226, mu226, mm227, mu227, mm228, mu228, mm229, mu229, mm230, mu230, z51, c, show m ≤ q + 1 by omega]
        exact this
end RBQ
