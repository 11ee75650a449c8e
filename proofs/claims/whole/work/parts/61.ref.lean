/-! THE REFERENCE, XII: odds -/
section RFL
variable {G : ai_G} {d n sl : Nat} {Y : mY} {Q : List Value → Nat → Nat → ai_M → Prop} {l k : Nat → Nat → Int32} {P S m : Nat} {X : mX}
/-- how often one is ruined, of r lives by seeds from i on -/
def oddsR (l k : Nat → Nat → Int32) (P p : Nat) (x : Int32) : Nat → Nat → Int32 → Int32
  | 0, _, acc => acc
  | r + 1, i, acc => oddsR l k P p x r (i + 1) (acc + b01 (bit ((drawsR k P 4 30 (l, x + nI i, 0)).1 9 0) (nI p) = 1))
set_option maxHeartbeats 8000000 in
theorem odds_loop {g N p : Nat} (hN : N ≤ 1000) (hp : p < P) (hg : g ≤ 9) (hgk : k 11 0 = nI g) {x : Int32} : ∀ (r i : Nat) (X : mX) (acc : Int32), i + r = N → LSx (X 201) l → LSx (fun i => X 209 (i - 132)) l → KS (X 201) k P S → (∀ sd s', LSx s' l → (∀ i, i < 132 ∨ 257 ≤ i → s' i = X 201 i) → Q [.int (oddsR l k P p x r i acc)] 231 sl (mem (ups X sd s') Y)) → aw ET G (d + 4) 266 52 [some (.ref 199), some (.int (nI p)), some (.int (nI N)), some (.int x), some (.int acc), some (.int (nI i))] [] 231 sl (mem X Y) Q := by
  intro r
  induction r with
  | zero =>
    intro i X acc hi hL hB hk hQ
    have : i = N := by omega
    subst this
    have := hQ (X 199 50) (X 201) hL (fun _ _ => rfl)
    simp only [oddsR, ups_id] at this
    simp (disch := omega) [w266_52, w266_54, w266_55, w266_95, w266_97, rt266, aw_st, ai_cls, ai_len, ai_p, ai_sw, ai_m, ai_c, ai_at, ai_isI, ai_isJ, ai_isA, ai_ld, ai_1i, ai_2i, ai_2l, ai_cn, ai_j, ai_set, ai_set2, ai_nl, ai_rs, ai_sm, Value.category, hk0, hk1, lits, litb, litm, litm2, or_n0, bit_r, fi0, fi1, fi2, fi3, nI_toInt, nI_add, pk_mul, nI_leI, nI_ltI, nI_eq, pk_sub, ib_nI, nI_clamp, va_up_self, va_up_ne, va_up_up, va_up_comm, pk_us, pk_un, upd_up, updL_up, pk_uLs, pk_uLn, b01_1, b01_0, b01_1s, b01_0s, or_b, mm200, mu200, mm201, mu201, mm202, mu202, mm203, mu203, mm204, mu204, mm205, mu205, mm206, mu206, mm207, mu207, mm208, mu208, mm209, mu209, mm210, mu210, mm211, mu211, mm212, mu212, mm213, mu213, mm214, mu214, mm215, mu215, mm216, mu216, mm217, mu217, mm218, mu218, mm219, mu219, mm220, mu220, mm221, mu221, mm222, mu222, mm223, mu223, mm224, mu224, mm225, mu225, mm226, mu226, mm227, mu227, mm228, mu228, mm229, mu229, mm230, mu230]
    exact this
  | succ r ih =>
    intro i X acc hi hL hB hk hQ
    have hP := hk.1
    rw [w266_52]
    simp (disch := omega) [w266_54, w266_55, w266_58, w266_59, w266_61, w266_62, w266_63, w266_65, x266_66, aw_st, ai_cls, ai_len, ai_p, ai_sw, ai_m, ai_c, ai_at, ai_isI, ai_isJ, ai_isA, ai_ld, ai_1i, ai_2i, ai_2l, ai_cn, ai_j, ai_set, ai_set2, ai_nl, ai_rs, ai_sm, Value.category, hk0, hk1, lits, litb, litm, litm2, or_n0, bit_r, fi0, fi1, fi2, fi3, nI_toInt, nI_add, pk_mul, nI_leI, nI_ltI, nI_eq, pk_sub, ib_nI, nI_clamp, va_up_self, va_up_ne, va_up_up, va_up_comm, pk_us, pk_un, upd_up, updL_up, pk_uLs, pk_uLn, b01_1, b01_0, b01_1s, b01_0s, or_b, mm200, mu200, mm201, mu201, mm202, mu202, mm203, mu203, mm204, mu204, mm205, mu205, mm206, mu206, mm207, mu207, mm208, mu208, mm209, mu209, mm210, mu210, mm211, mu211, mm212, mu212, mm213, mu213, mm214, mu214, mm215, mu215, mm216, mu216, mm217, mu217, mm218, mu218, mm219, mu219, mm220, mu220, mm221, mu221, mm222, mu222, mm223, mu223, mm224, mu224, mm225, mu225, mm226, mu226, mm227, mu227, mm228, mu228, mm229, mu229, mm230, mu230, show ¬ N ≤ i by omega]
    refine years_wp (T := 4) (N := 30) (l := l) (k := k) (P := P) (S := S) (by omega) (by omega) (by omega) hg hgk ?h1 ?h2 ?h3
    case h1 => exact hL
    case h2 => exact hk
    intro s' h1 h2
    have a7 := h1.1.2.2.2.2.2.2.1 p (by omega)
    have e201 : ∀ x s, ups X x s 201 = s := fun x s => va_up_self _ _ _
    simp (disch := omega) [w266_69, w266_70, w266_72, x266_73, w266_76, w266_79, w266_80, w266_81, w266_82, w266_83, w266_85, x266_86, w266_89, w266_92, aw_st, ai_cls, ai_len, ai_p, ai_sw, ai_m, ai_c, ai_at, ai_isI, ai_isJ, ai_isA, ai_ld, ai_1i, ai_2i, ai_2l, ai_cn, ai_j, ai_set, ai_set2, ai_nl, ai_rs, ai_sm, Value.category, hk0, hk1, lits, litb, litm, litm2, or_n0, bit_r, fi0, fi1, fi2, fi3, nI_toInt, nI_add, pk_mul, nI_leI, nI_ltI, nI_eq, pk_sub, ib_nI, nI_clamp, va_up_self, va_up_ne, va_up_up, va_up_comm, pk_us, pk_un, upd_up, updL_up, pk_uLs, pk_uLn, b01_1, b01_0, b01_1s, b01_0s, or_b, mm200, mu200, mm201, mu201, mm202, mu202, mm203, mu203, mm204, mu204, mm205, mu205, mm206, mu206, mm207, mu207, mm208, mu208, mm209, mu209, mm210, mu210, mm211, mu211, mm212, mu212, mm213, mu213, mm214, mu214, mm215, mu215, mm216, mu216, mm217, mu217, mm218, mu218, mm219, mu219, mm220, mu220, mm221, mu221, mm222, mu222, mm223, mu223, mm224, mu224, mm225, mu225, mm226, mu226, mm227, mu227, mm228, mu228, mm229, mu229, mm230, mu230, back_eq, e201, a7]
    refine ih (i + 1) _ _ (by omega) ?_ ?_ ?_ ?_
    · rw [va_up_self]
      exact hB.kept (fun i h1 h2 => by rw [pk_cpy_in (by omega) (by omega)]; simp [ups, va_up])
    · exact hB
    · rw [va_up_self]
      exact hk.kept (fun i hi => by rw [pk_cpy_out (by omega)]; exact h2 i (by omega))
    · intro sd s2 h3 h4
      rw [ups2]
      refine hQ sd s2 h3 (fun i hi => ?_)
      rw [h4 i hi, va_up_self, pk_cpy_out (by omega)]
      exact h2 i hi
def okO (P : Nat) (l : Nat → Nat → Int32) (x y : Int32) : Bool := pI P x && (inI 1 50 y && decide (¬ 9999 < l 10 0 + 30))
def oddsV (P : Nat) (l k : Nat → Nat → Int32) (x y z : Int32) : Int32 := if okO P l x y = true then oddsR l k P (iN x) z (iN y) 0 0 else mi1
set_option maxHeartbeats 8000000 in
theorem odds_wp {g : Nat} (hg : g ≤ 9) (hgk : k 11 0 = nI g) (hL : LSx (X 201) l) (hk : KS (X 201) k P S) {x y z : Int32} (hQ : ∀ X', LSx (X' 201) l → (∀ i, i < 132 ∨ 257 ≤ i → X' 201 i = X 201 i) → (∀ j, ¬ j = 199 → ¬ j = 201 → ¬ j = 209 → X' j = X j) → (∀ j, ¬ j = 0 → ¬ j = 50 → X' 199 j = X 199 j) → Q [.int (oddsV P l k x y z)] 231 sl (mem X' Y)) : aw ET G (d + 4) 266 0 [some (.ref 199), some (.int x), some (.int y), some (.int z), none, none] [] 231 sl (mem X Y) Q := by
  have a1 := hL.1.1
  have k1 := hk.2.2.2.2.1
  have hP := hk.1
  have hp : ∀ (x : Int32) (Q : List Value → Nat → Nat → ai_M → Prop), aw ET G (d + 3) 201 0 [some (.ref 199), some (.int x)] [] 231 sl (mem (va_up X 199 (upd (X 199) 0 (nI 0))) Y) Q = Q [.int (b01 (pI P x = true))] 231 sl (mem (va_up X 199 (upd (X 199) 0 (nI 0))) Y) := fun x Q => isPerson_eq (X := (va_up X 199 (upd (X 199) 0 (nI 0)))) hP k1
  have hq0 := hQ (va_up X 199 (upd (X 199) 0 (nI 0))) hL (fun _ _ => rfl) (fun j h1 h2 h3 => by simp [va_up, h1]) (fun j h1 h2 => by simp [va_up, upd, h1])
  unfold oddsV okO at hQ hq0
  cases hi : pI P x
  · rw [hi] at hq0
    simp (disch := omega) [w266_0, w266_1, x266_2, w266_5, w266_6, x266_7, w266_10, w266_13, w266_14, w266_15, x266_17, w266_20, w266_23, x266_24, w266_27, w266_30, w266_31, w266_33, w266_34, w266_37, w266_40, w266_41, w266_42, x266_43, w266_46, w266_47, w266_49, w266_50, w266_52, w266_54, w266_55, w266_58, w266_59, w266_61, w266_62, w266_63, w266_65, x266_66, w266_69, w266_70, w266_72, x266_73, w266_76, w266_79, w266_80, w266_81, w266_82, w266_83, w266_85, x266_86, w266_89, w266_92, w266_95, w266_97, rt266, aw_st, ai_cls, ai_len, ai_p, ai_sw, ai_m, ai_c, ai_at, ai_isI, ai_isJ, ai_isA, ai_ld, ai_1i, ai_2i, ai_2l, ai_cn, ai_j, ai_set, ai_set2, ai_nl, ai_rs, ai_sm, Value.category, hk0, hk1, lits, litb, litm, litm2, or_n0, bit_r, fi0, fi1, fi2, fi3, nI_toInt, nI_add, pk_mul, nI_leI, nI_ltI, nI_eq, pk_sub, ib_nI, nI_clamp, va_up_self, va_up_ne, va_up_up, va_up_comm, pk_us, pk_un, upd_up, updL_up, pk_uLs, pk_uLn, b01_1, b01_0, b01_1s, b01_0s, or_b, mm200, mu200, mm201, mu201, mm202, mu202, mm203, mu203, mm204, mu204, mm205, mu205, mm206, mu206, mm207, mu207, mm208, mu208, mm209, mu209, mm210, mu210, mm211, mu211, mm212, mu212, mm213, mu213, mm214, mu214, mm215, mu215, mm216, mu216, mm217, mu217, mm218, mu218, mm219, mu219, mm220, mu220, mm221, mu221, mm222, mu222, mm223, mu223, mm224, mu224, mm225, mu225, mm226, mu226, mm227, mu227, mm228, mu228, mm229, mu229, mm230, mu230, hp, hi]
    exact hq0
  · obtain ⟨p, hp1, rfl⟩ := (pI_nat (by omega)).mp hi
    cases hj : inI 1 50 y
    · have hj' : inI (nI 1) (nI 50) y = false := hj
      rw [hi, hj] at hq0
      simp (disch := omega) [w266_0, w266_1, x266_2, w266_5, w266_6, x266_7, w266_10, w266_13, w266_14, w266_15, x266_17, w266_20, w266_23, x266_24, w266_27, w266_30, w266_31, w266_33, w266_34, w266_37, w266_40, w266_41, w266_42, x266_43, w266_46, w266_47, w266_49, w266_50, w266_52, w266_54, w266_55, w266_58, w266_59, w266_61, w266_62, w266_63, w266_65, x266_66, w266_69, w266_70, w266_72, x266_73, w266_76, w266_79, w266_80, w266_81, w266_82, w266_83, w266_85, x266_86, w266_89, w266_92, w266_95, w266_97, rt266, aw_st, ai_cls, ai_len, ai_p, ai_sw, ai_m, ai_c, ai_at, ai_isI, ai_isJ, ai_isA, ai_ld, ai_1i, ai_2i, ai_2l, ai_cn, ai_j, ai_set, ai_set2, ai_nl, ai_rs, ai_sm, Value.category, hk0, hk1, lits, litb, litm, litm2, or_n0, bit_r, fi0, fi1, fi2, fi3, nI_toInt, nI_add, pk_mul, nI_leI, nI_ltI, nI_eq, pk_sub, ib_nI, nI_clamp, va_up_self, va_up_ne, va_up_up, va_up_comm, pk_us, pk_un, upd_up, updL_up, pk_uLs, pk_uLn, b01_1, b01_0, b01_1s, b01_0s, or_b, mm200, mu200, mm201, mu201, mm202, mu202, mm203, mu203, mm204, mu204, mm205, mu205, mm206, mu206, mm207, mu207, mm208, mu208, mm209, mu209, mm210, mu210, mm211, mu211, mm212, mu212, mm213, mu213, mm214, mu214, mm215, mu215, mm216, mu216, mm217, mu217, mm218, mu218, mm219, mu219, mm220, mu220, mm221, mu221, mm222, mu222, mm223, mu223, mm224, mu224, mm225, mu225, mm226, mu226, mm227, mu227, mm228, mu228, mm229, mu229, mm230, mu230, isIn_eq, hp, hi, hj']
      exact hq0
    · have hj' : inI (nI 1) (nI 50) y = true := hj
      obtain ⟨N, t1, t2, rfl⟩ := inI_nat (lo := 1) (hi := 50) (by omega) (by omega) hj'
      rcases lt_or (nI 9999) (l 10 0 + nI 30) with ⟨g1, g2⟩ | ⟨g1, g2⟩
      · rw [hi, hj, if_neg (by simp; exact g1)] at hq0
        simp (disch := omega) [w266_0, w266_1, x266_2, w266_5, w266_6, x266_7, w266_10, w266_13, w266_14, w266_15, x266_17, w266_20, w266_23, x266_24, w266_27, w266_30, w266_31, w266_33, w266_34, w266_37, w266_40, w266_41, w266_42, x266_43, w266_46, w266_47, w266_49, w266_50, w266_52, w266_54, w266_55, w266_58, w266_59, w266_61, w266_62, w266_63, w266_65, x266_66, w266_69, w266_70, w266_72, x266_73, w266_76, w266_79, w266_80, w266_81, w266_82, w266_83, w266_85, x266_86, w266_89, w266_92, w266_95, w266_97, rt266, aw_st, ai_cls, ai_len, ai_p, ai_sw, ai_m, ai_c, ai_at, ai_isI, ai_isJ, ai_isA, ai_ld, ai_1i, ai_2i, ai_2l, ai_cn, ai_j, ai_set, ai_set2, ai_nl, ai_rs, ai_sm, Value.category, hk0, hk1, lits, litb, litm, litm2, or_n0, bit_r, fi0, fi1, fi2, fi3, nI_toInt, nI_add, pk_mul, nI_leI, nI_ltI, nI_eq, pk_sub, ib_nI, nI_clamp, va_up_self, va_up_ne, va_up_up, va_up_comm, pk_us, pk_un, upd_up, updL_up, pk_uLs, pk_uLn, b01_1, b01_0, b01_1s, b01_0s, or_b, mm200, mu200, mm201, mu201, mm202, mu202, mm203, mu203, mm204, mu204, mm205, mu205, mm206, mu206, mm207, mu207, mm208, mu208, mm209, mu209, mm210, mu210, mm211, mu211, mm212, mu212, mm213, mu213, mm214, mu214, mm215, mu215, mm216, mu216, mm217, mu217, mm218, mu218, mm219, mu219, mm220, mu220, mm221, mu221, mm222, mu222, mm223, mu223, mm224, mu224, mm225, mu225, mm226, mu226, mm227, mu227, mm228, mu228, mm229, mu229, mm230, mu230, isIn_eq, hp, hi, hj', a1, g2]
        exact hq0
      · rw [hi, hj, if_pos (by simp; exact g2), iN_nI (by omega), iN_nI (by omega)] at hQ
        simp (disch := omega) [w266_0, w266_1, x266_2, w266_5, w266_6, x266_7, w266_10, w266_13, w266_14, w266_15, x266_17, w266_20, w266_23, x266_24, w266_27, w266_30, w266_31, w266_33, w266_34, w266_37, w266_40, w266_41, w266_42, x266_43, w266_46, w266_47, w266_49, w266_50, w266_54, w266_55, w266_58, w266_59, w266_61, w266_62, w266_63, w266_65, x266_66, w266_69, w266_70, w266_72, x266_73, w266_76, w266_79, w266_80, w266_81, w266_82, w266_83, w266_85, x266_86, w266_89, w266_92, w266_95, w266_97, rt266, aw_st, ai_cls, ai_len, ai_p, ai_sw, ai_m, ai_c, ai_at, ai_isI, ai_isJ, ai_isA, ai_ld, ai_1i, ai_2i, ai_2l, ai_cn, ai_j, ai_set, ai_set2, ai_nl, ai_rs, ai_sm, Value.category, hk0, hk1, lits, litb, litm, litm2, or_n0, bit_r, fi0, fi1, fi2, fi3, nI_toInt, nI_add, pk_mul, nI_leI, nI_ltI, nI_eq, pk_sub, ib_nI, nI_clamp, va_up_self, va_up_ne, va_up_up, va_up_comm, pk_us, pk_un, upd_up, updL_up, pk_uLs, pk_uLn, b01_1, b01_0, b01_1s, b01_0s, or_b, mm200, mu200, mm201, mu201, mm202, mu202, mm203, mu203, mm204, mu204, mm205, mu205, mm206, mu206, mm207, mu207, mm208, mu208, mm209, mu209, mm210, mu210, mm211, mu211, mm212, mu212, mm213, mu213, mm214, mu214, mm215, mu215, mm216, mu216, mm217, mu217, mm218, mu218, mm219, mu219, mm220, mu220, mm221, mu221, mm222, mu222, mm223, mu223, mm224, mu224, mm225, mu225, mm226, mu226, mm227, mu227, mm228, mu228, mm229, mu229, mm230, mu230, isIn_eq, hp, hi, hj', a1, g2, tries_eq]
        refine odds_loop (N := N) (l := l) (k := k) (P := P) (S := S) (by omega) hp1 hg hgk N 0 _ _ (by omega) hL ?_ hk ?_
        · exact hL.kept (fun i h1 h2 => by rw [va_up_self, pk_cpy_in (by omega) (by omega)]; exact congrArg (X 201) (by omega))
        · intro sd s' h1 h2
          refine hQ _ ?_ ?_ ?_ ?_
          · simp only [ups, va_up_self]; exact h1
          · simp only [ups, va_up_self]; exact h2
          · intro j j1 j2 j3; simp [ups, va_up, j1, j2, j3]
          · intro j j1 j2; simp [ups, va_up, upd, j1, j2]
end RFL
