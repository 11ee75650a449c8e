/-! BOOK: the reference, its text -/
section RBP
variable {G : ai_G} {d sl : Nat} {Q : List Value → Nat → Nat → ai_M → Prop} {Y : mY} {X : mX} {c : TC} {P S : Nat} {nm : Nat → List Nat}
/-- a BOOK as the reference keeps it -/
def CR (R : Nat → Int32) (B : BL) (m : Nat) : Prop := ∀ q, q < m → rowL R q (B q)
theorem CR_cg {R R' : Nat → Int32} {B : BL} {m : Nat} (h : CR R B m) (g : ∀ j, j < 4 * m → R' j = R j) : CR R' B m := by
  intro q hq
  obtain ⟨a, b, e⟩ := h q hq
  refine ⟨by rw [g _ (by omega)]; exact a, fun x => ?_, fun x => ?_⟩
  · rw [g _ (by omega), g _ (by omega), g _ (by omega)]; exact b x
  · rw [g _ (by omega)]; exact e x
theorem CR_u {R : Nat → Int32} {B : BL} {m : Nat} {L : BLn} (h : CR R B m) (g : rowL R m L) : CR R (BU B m L) (m + 1) := by
  intro q hq
  unfold BU
  by_cases e : q = m
  · rw [if_pos e, e]; exact g
  · rw [if_neg e]; exact h q (by omega)
/-- what a BOOK's text leaves as it was, in the reference -/
def BZ (X : mX) (Y : mY) (X' : mX) (Y' : mY) : Prop := (∀ k, ¬ k = 199 → ¬ k = 203 → X' k = X k) ∧ (∀ k, ¬ k = 199 → Y' k = Y k) ∧ (∀ j, ¬ j = 4 → ¬ (11 ≤ j ∧ j ≤ 16) → ¬ j = 18 → ¬ j = 51 → X' 199 j = X 199 j)
theorem BZ.tr {X' X2 : mX} {Y' Y2 : mY} (h : BZ X Y X' Y') (g : BZ X' Y' X2 Y2) : BZ X Y X2 Y2 := ⟨fun k a b => (g.1 k a b).trans (h.1 k a b), fun k a => (g.2.1 k a).trans (h.2.1 k a), fun j a b e f => (g.2.2 j a b e f).trans (h.2.2 j a b e f)⟩
theorem BX.bz {X' : mX} {Y' : mY} {m : Nat} (h : BX m X Y X' Y') : BZ X Y X' Y' := ⟨h.1, h.2.1, fun j a b e _ => h.2.2.1 j a b e⟩
theorem HX.bz {X' : mX} {Y' : mY} (h : HX X Y X' Y') : BZ X Y X' Y' := ⟨fun k a _ => h.1 k a, h.2.1, fun j a b e _ => h.2.2 j a b e⟩
theorem sBLine_30 {i m i2 : Nat} {L : BLn} (h : sBLine c nm P S i m = .inr (i2, L)) : ¬ m = 30 := by
  intro q
  subst q
  unfold sBLine at h
  split at h
  · simp at h
  · split at h
    · cases h
    · simp at h
theorem sOne_P {i k : Nat} (h : sOne c nm P i = .inr k) : k < P := (sOne_lt h).1
theorem sTalk_ok {i a i2 : Nat} {L : BLn} (ha : a < P) (h : sTalk c nm P S i a = .inr (i2, L)) : okL P S L := by
  unfold sTalk at h
  split at h
  · cases hb : sOne c nm P (cA c i) with
    | inl e => rw [hb] at h; cases h
    | inr b =>
      rw [hb] at h
      simp only at h
      split at h
      · cases hz : sNum c 1 24 (cA c (cA c i)) with
        | inl e => rw [hz] at h; cases h
        | inr zz =>
          rw [hz] at h
          cases h
          have := sNum_ok hz
          exact Or.inl ⟨rfl, ha, sOne_P hb, this.2.1, this.2.2.1⟩
      · cases hz : sOne c (nmS nm) S (cA c (cA c i)) with
        | inl e => rw [hz] at h; cases h
        | inr z =>
          rw [hz] at h
          cases h
          exact Or.inr (Or.inl ⟨rfl, ha, sOne_P hb, sOne_P hz⟩)
  · cases h
theorem sBLine_ok {i m i2 : Nat} {L : BLn} (h : sBLine c nm P S i m = .inr (i2, L)) : okL P S L := by
  unfold sBLine at h
  split at h
  · split at h
    · cases h
    · split at h
      · cases h; exact Or.inr (Or.inr (Or.inr rfl))
      · cases hz : sNum c 1 30 (cA c i) with
        | inl e => rw [hz] at h; cases h
        | inr zz =>
          rw [hz] at h
          cases h
          have := sNum_ok hz
          exact Or.inr (Or.inr (Or.inl ⟨rfl, rfl, rfl, this.2.1, this.2.2.1⟩))
  · cases hb : sOne c nm P i with
    | inl e => rw [hb] at h; cases h
    | inr a =>
      rw [hb] at h
      simp only at h
      split at h
      · cases h
      · exact sTalk_ok (sOne_P hb) h
set_option maxHeartbeats 8000000 in
theorem rbk_loop {v1 : Option Value} : ∀ (r m i : Nat) (B : BL) (X : mX) (Y : mY), m + r = 31 → m ≤ 30 → (∀ k, k < 21 → Y 205 k = kl k) → RNM X Y nm P S → RDR c i (X 199) (Y 199) → OKr c X → i ≤ c.2.1 → X 199 51 = nI m → CR (X 203) B m → BB B m P S → (∀ e j, sBook c nm P S r i m B = .inl (e, j) → ∀ X' Y', BZ X Y X' Y' → X' 199 15 = nI e → X' 199 16 = nI (cP c j) → Q [.int (mi2 - nI (cP c j))] 231 sl (mem X' Y')) → (∀ m' B', sBook c nm P S r i m B = .inr (m', B') → m' ≤ 30 → BB B' m' P S → ∀ X' Y', BZ X Y X' Y' → CR (X' 203) B' m' → X' 199 51 = nI m' → X' 199 15 = X 199 15 → aw ET G (d + 4) 271 83 [some (.ref 199), v1, none, none, none] [] 231 sl (mem X' Y') Q) → aw ET G (d + 4) 271 39 [some (.ref 199), v1, none, none, none] [] 231 sl (mem X Y) Q := by
  intro r
  induction r with
  | zero => intro m i B X Y hm hm2; omega
  | succ r ih =>
    intro m i B X Y hm hm2 hR hN h ok hi h51 hc hB hQ1 hQ2
    have f11 := h.2.2.2.1
    have hle := rkN_le (k := cK c i)
    have hn := ok.2.1
    rw [w271_39]
    by_cases e0 : cK c i = 0
    · have := hQ2 m B (by unfold sBook; rw [if_pos e0]) hm2 hB X Y ⟨fun _ _ _ => rfl, fun _ _ => rfl, fun _ _ _ _ _ => rfl⟩ hc h51 rfl
      have hrk : rkN (cK c i) = 0 := rkN_0.mpr e0
      rw [hrk] at f11
      simp (disch := omega) [x271_40, w271_43, rt271, aw_st, ai_cls, ai_len, ai_p, ai_sw, ai_m, ai_c, ai_at, ai_isI, ai_isJ, ai_isA, ai_ld, ai_1i, ai_2i, ai_2l, ai_cn, ai_j, ai_set, ai_set2, ai_nl, ai_rs, ai_sm, Value.category, hk0, hk1, lits, litb, litm, litm2, List.getElem?_cons_zero, List.getElem?_cons_succ, or_n0, bit_r, fi0, fi1, fi2, fi3, nI_toInt, nI_add, pk_mul, nI_leI, nI_ltI, nI_eq, pk_sub, ib_nI, nI_clamp, va_up_self, va_up_ne, va_up_up, va_up_comm, pk_us, pk_un, upd_up, updL_up, pk_uLs, pk_uLn, b01_1, b01_0, b01_1s, b01_0s, or_b, mm200, mu200, mm201, mu201, mm202, mu202, mm203, mu203, mm204, mu204, mm205, mu205, mm206, mu206, mm207, mu207, mm208, mu208, mm209, mu209, mm210, mu210, mm211, mu211, mm212, mu212, mm213, mu213, mm214, mu214, mm215, mu215, mm216, mu216, mm217, mu217, mm218, mu218, mm219, mu219, mm220, mu220, mm221, mu221, mm222, mu222, mm223, mu223, mm224, mu224, mm225, mu225, mm226, mu226, mm227, mu227, mm228, mu228, mm229, mu229, mm230, mu230, f11]
      exact this
    · have es : sBook c nm P S (r + 1) i m B = match sBLine c nm P S i m with
        | .inl e => .inl e
        | .inr (i2, L) => if ¬ cK c i2 = 59 then .inl (1, i2) else sBook c nm P S r (cA c i2) (m + 1) (BU B m L) := by
        rw [sBook, if_neg e0]
        cases sBLine c nm P S i m <;> rfl
      have hrk : ¬ rkN (cK c i) = 0 := fun q => e0 (rkN_0.mp q)
      simp (disch := omega) [x271_40, w271_43, w271_46, x271_47, rt271, aw_st, ai_cls, ai_len, ai_p, ai_sw, ai_m, ai_c, ai_at, ai_isI, ai_isJ, ai_isA, ai_ld, ai_1i, ai_2i, ai_2l, ai_cn, ai_j, ai_set, ai_set2, ai_nl, ai_rs, ai_sm, Value.category, hk0, hk1, lits, litb, litm, litm2, List.getElem?_cons_zero, List.getElem?_cons_succ, or_n0, bit_r, fi0, fi1, fi2, fi3, nI_toInt, nI_add, pk_mul, nI_leI, nI_ltI, nI_eq, pk_sub, ib_nI, nI_clamp, va_up_self, va_up_ne, va_up_up, va_up_comm, pk_us, pk_un, upd_up, updL_up, pk_uLs, pk_uLn, b01_1, b01_0, b01_1s, b01_0s, or_b, mm200, mu200, mm201, mu201, mm202, mu202, mm203, mu203, mm204, mu204, mm205, mu205, mm206, mu206, mm207, mu207, mm208, mu208, mm209, mu209, mm210, mu210, mm211, mu211, mm212, mu212, mm213, mu213, mm214, mu214, mm215, mu215, mm216, mu216, mm217, mu217, mm218, mu218, mm219, mu219, mm220, mu220, mm221, mu221, mm222, mu222, mm223, mu223, mm224, mu224, mm225, mu225, mm226, mu226, mm227, mu227, mm228, mu228, mm229, mu229, mm230, mu230, f11, hrk]
      refine rbline_wp (d := d) hR hN h ok hi h51 hm2 (fun e j el X1 Y1 y1 e15 e16 => ?_) (fun i2 L el hi2 X1 Y1 y1 r1 e15 hrow => ?_)
      · have := hQ1 e j (by rw [es, el]) X1 Y1 y1.bz e15 e16
        simp (disch := omega) [w271_50, w271_62, w271_64, x271_65, w271_68, w271_69, rt271, aw_st, ai_cls, ai_len, ai_p, ai_sw, ai_m, ai_c, ai_at, ai_isI, ai_isJ, ai_isA, ai_ld, ai_1i, ai_2i, ai_2l, ai_cn, ai_j, ai_set, ai_set2, ai_nl, ai_rs, ai_sm, Value.category, hk0, hk1, lits, litb, litm, litm2, List.getElem?_cons_zero, List.getElem?_cons_succ, or_n0, bit_r, fi0, fi1, fi2, fi3, nI_toInt, nI_add, pk_mul, nI_leI, nI_ltI, nI_eq, pk_sub, ib_nI, nI_clamp, va_up_self, va_up_ne, va_up_up, va_up_comm, pk_us, pk_un, upd_up, updL_up, pk_uLs, pk_uLn, b01_1, b01_0, b01_1s, b01_0s, or_b, mm200, mu200, mm201, mu201, mm202, mu202, mm203, mu203, mm204, mu204, mm205, mu205, mm206, mu206, mm207, mu207, mm208, mu208, mm209, mu209, mm210, mu210, mm211, mu211, mm212, mu212, mm213, mu213, mm214, mu214, mm215, mu215, mm216, mu216, mm217, mu217, mm218, mu218, mm219, mu219, mm220, mu220, mm221, mu221, mm222, mu222, mm223, mu223, mm224, mu224, mm225, mu225, mm226, mu226, mm227, mu227, mm228, mu228, mm229, mu229, mm230, mu230, e16]
        exact this
      · have hm3 : m < 30 := by have := sBLine_30 el; omega
        have hL : okL P S L := sBLine_ok el
        have ok1 : OKr c X1 := OKr_cg ok (y1.1 200 (by omega) (by omega))
        simp (disch := omega) [w271_50, w271_53, w271_54, x271_56, rt271, aw_st, ai_cls, ai_len, ai_p, ai_sw, ai_m, ai_c, ai_at, ai_isI, ai_isJ, ai_isA, ai_ld, ai_1i, ai_2i, ai_2l, ai_cn, ai_j, ai_set, ai_set2, ai_nl, ai_rs, ai_sm, Value.category, hk0, hk1, lits, litb, litm, litm2, List.getElem?_cons_zero, List.getElem?_cons_succ, or_n0, bit_r, fi0, fi1, fi2, fi3, nI_toInt, nI_add, pk_mul, nI_leI, nI_ltI, nI_eq, pk_sub, ib_nI, nI_clamp, va_up_self, va_up_ne, va_up_up, va_up_comm, pk_us, pk_un, upd_up, updL_up, pk_uLs, pk_uLn, b01_1, b01_0, b01_1s, b01_0s, or_b, mm200, mu200, mm201, mu201, mm202, mu202, mm203, mu203, mm204, mu204, mm205, mu205, mm206, mu206, mm207, mu207, mm208, mu208, mm209, mu209, mm210, mu210, mm211, mu211, mm212, mu212, mm213, mu213, mm214, mu214, mm215, mu215, mm216, mu216, mm217, mu217, mm218, mu218, mm219, mu219, mm220, mu220, mm221, mu221, mm222, mu222, mm223, mu223, mm224, mu224, mm225, mu225, mm226, mu226, mm227, mu227, mm228, mu228, mm229, mu229, mm230, mu230]
        refine Gsign (d := d + 1) (by omega) (by omega) r1 ok1 hi2 (fun q X2 Y2 y2 b15 b16 => ?_) (fun q X2 Y2 y2 r2 f2 => ?_)
        · have := hQ1 1 i2 (by rw [es, el]; simp only [q, not_false_eq_true, if_true]) X2 Y2 (y1.bz.tr y2.bz) b15 b16
          simp (disch := omega) [w271_59, w271_62, w271_64, x271_65, w271_68, w271_69, rt271, aw_st, ai_cls, ai_len, ai_p, ai_sw, ai_m, ai_c, ai_at, ai_isI, ai_isJ, ai_isA, ai_ld, ai_1i, ai_2i, ai_2l, ai_cn, ai_j, ai_set, ai_set2, ai_nl, ai_rs, ai_sm, Value.category, hk0, hk1, lits, litb, litm, litm2, List.getElem?_cons_zero, List.getElem?_cons_succ, or_n0, bit_r, fi0, fi1, fi2, fi3, nI_toInt, nI_add, pk_mul, nI_leI, nI_ltI, nI_eq, pk_sub, ib_nI, nI_clamp, va_up_self, va_up_ne, va_up_up, va_up_comm, pk_us, pk_un, upd_up, updL_up, pk_uLs, pk_uLn, b01_1, b01_0, b01_1s, b01_0s, or_b, mm200, mu200, mm201, mu201, mm202, mu202, mm203, mu203, mm204, mu204, mm205, mu205, mm206, mu206, mm207, mu207, mm208, mu208, mm209, mu209, mm210, mu210, mm211, mu211, mm212, mu212, mm213, mu213, mm214, mu214, mm215, mu215, mm216, mu216, mm217, mu217, mm218, mu218, mm219, mu219, mm220, mu220, mm221, mu221, mm222, mu222, mm223, mu223, mm224, mu224, mm225, mu225, mm226, mu226, mm227, mu227, mm228, mu228, mm229, mu229, mm230, mu230, b16]
          exact this
        · have e2 : sBook c nm P S (r + 1) i m B = sBook c nm P S r (cA c i2) (m + 1) (BU B m L) := by rw [es, el]; simp only [q, not_true, if_false]
          rw [e2] at hQ1 hQ2
          have z2 : BZ X Y X2 Y2 := y1.bz.tr y2.bz
          have x51 : X2 199 51 = nI m := by rw [y2.2.2 51 (by omega) (by omega) (by omega), y1.2.2.1 51 (by omega) (by omega) (by omega)]; exact h51
          simp (disch := omega) [w271_59, w271_70, w271_71, x271_72, w271_75, w271_76, x271_77, w271_80, rt271, aw_st, ai_cls, ai_len, ai_p, ai_sw, ai_m, ai_c, ai_at, ai_isI, ai_isJ, ai_isA, ai_ld, ai_1i, ai_2i, ai_2l, ai_cn, ai_j, ai_set, ai_set2, ai_nl, ai_rs, ai_sm, Value.category, hk0, hk1, lits, litb, litm, litm2, List.getElem?_cons_zero, List.getElem?_cons_succ, or_n0, bit_r, fi0, fi1, fi2, fi3, nI_toInt, nI_add, pk_mul, nI_leI, nI_ltI, nI_eq, pk_sub, ib_nI, nI_clamp, va_up_self, va_up_ne, va_up_up, va_up_comm, pk_us, pk_un, upd_up, updL_up, pk_uLs, pk_uLn, b01_1, b01_0, b01_1s, b01_0s, or_b, mm200, mu200, mm201, mu201, mm202, mu202, mm203, mu203, mm204, mu204, mm205, mu205, mm206, mu206, mm207, mu207, mm208, mu208, mm209, mu209, mm210, mu210, mm211, mu211, mm212, mu212, mm213, mu213, mm214, mu214, mm215, mu215, mm216, mu216, mm217, mu217, mm218, mu218, mm219, mu219, mm220, mu220, mm221, mu221, mm222, mu222, mm223, mu223, mm224, mu224, mm225, mu225, mm226, mu226, mm227, mu227, mm228, mu228, mm229, mu229, mm230, mu230, x51]
          generalize hz : va_up X2 199 (upd (X2 199) 51 (nI (m + 1))) = Z
          have z199 : Z 199 = upd (X2 199) 51 (nI (m + 1)) := by rw [← hz]; simp [va_up]
          have zo : ∀ k, ¬ k = 199 → Z k = X2 k := fun k hk => by rw [← hz]; simp only [va_up, hk, if_false]
          have zg : BZ X2 Y2 Z Y2 := ⟨fun k a _ => zo k a, fun _ _ => rfl, fun j a b e f => by rw [z199, pk_un (by omega)]⟩
          have rg2 := z2.tr zg
          have o203 : Z 203 = X1 203 := by rw [zo 203 (by omega), y2.1 203 (by omega)]
          refine ih (m + 1) (cA c i2) (BU B m L) Z Y2 (by omega) (by omega) (fun k hk => by rw [rg2.2.1 205 (by omega)]; exact hR k hk) (hN.cg (rg2.1 201 (by omega) (by omega)) (rg2.2.1 204 (by omega))) ?_ (OKr_cg ok (rg2.1 200 (by omega) (by omega))) (cA_le hi2) (by rw [z199]; simp [upd]) ?_ (BB_u hB hL) (fun e j el X' Y' f3 b15 b16 => hQ1 e j el X' Y' (rg2.tr f3) b15 b16) (fun m' B' el hm' hB' X' Y' f3 hc' b51 b15 => hQ2 m' B' el hm' hB' X' Y' (rg2.tr f3) hc' b51 (by rw [b15, z199, pk_un (by omega), f2, e15]))
          · rw [z199]; exact RDR_cg r2 (by simp [upd]) (by simp [upd]) (by simp [upd]) (by simp [upd]) (by simp [upd]) (by simp [upd])
          · rw [o203]; exact CR_u (CR_cg hc (fun j hj => y1.2.2.2 j hj)) hrow
end RBP
