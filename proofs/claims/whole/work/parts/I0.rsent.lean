/-! A SENTENCE's text: the reference, an operand, II -/
section RSD
variable {G : ai_G} {d sl : Nat} {Q : List Value → Nat → Nat → ai_M → Prop} {Y : mY} {X : mX} {c : TC} {i P S o : Nat} {nm : Nat → List Nat} {L : List SC} {s : List Nat} {w : Bool}
set_option maxHeartbeats 16000000 in
theorem operand_wp (hR : ∀ k, k < 21 → Y 205 k = kl k) (hN : RNM X Y nm P S) (hs : SR X L s o false) (h : RDR c i (X 199) (Y 199)) (ok : OKr c X) (hi : i ≤ c.2.1) (ho : o ≤ 20) (hl : L.length + s.length ≤ 42) (hQ1 : kBad Q sl c X Y (opS c nm P S i o L s (dcS s))) (hQ2 : kOk Q sl c X Y (opS c nm P S i o L s (dcS s))) : aw ET G (d + 3) 281 0 [some (.ref 199), none, none, none, none] [] 231 sl (mem X Y) Q := by
  have w13 := fun (Q : List Value → Nat → Nat → ai_M → Prop) => GW (G := G) (d := d + 2) (sl := sl) (Q := Q) (X := X) (Y := Y) (j := 13) (by omega) h ok hi
  have w40 := fun (Q : List Value → Nat → Nat → ai_M → Prop) => GS (G := G) (d := d + 2) (sl := sl) (Q := Q) (X := X) (Y := Y) (v := 40) (by omega) (by omega) h ok hi
  have wl := fun (Q : List Value → Nat → Nat → ai_M → Prop) => leafOf_eq (G := G) (d := d + 1) (sl := sl) (Q := Q) (X := X) (Y := Y) h ok hi
  have e57 : X 199 57 = nI o := hs.2.1
  have e58 : X 199 58 = nI s.length := hs.2.2.1
  have e59 : X 199 59 = nI (dcS s) := hs.2.2.2.1
  have hy21 : cY c i ≤ 21 := tY_le
  have lfb : lfN (cY c i) = mi1 ∨ ∃ v, v < 10 ∧ lfN (cY c i) = nI v := by
    unfold lfN
    split
    · rename_i q
      refine Or.inr ⟨rkc (cY c i), ?_, rfl⟩
      unfold isMs at q
      simp only [Bool.and_eq_true, decide_eq_true_eq] at q
      unfold rkc
      repeat' split
      all_goals omega
    · exact Or.inl rfl
  have bad : ∀ (e : Nat) (x1 x2 x3 : Option Value) (pc : Nat), (pc = 34 ∧ e = 1) ∨ (pc = 58 ∧ e = 4) → opS c nm P S i o L s (dcS s) = .inl (e, i) → aw ET G (d + 3) 281 pc [some (.ref 199), x1, x2, x3, none] [.int (nI e), .ref 199] 231 sl (mem X Y) Q := by
    intro e x1 x2 x3 pc hpc hq
    rcases hpc with ⟨rfl, rfl⟩ | ⟨rfl, rfl⟩
    · rw [x281_34, if_pos (by decide)]
      refine Gbad h (fun X3 Y3 f3 b15 b16 => ?_)
      simp (disch := omega) [w281_37, rt281, rt281, aw_st, ai_cls, ai_len, ai_p, ai_sw, ai_m, ai_c, ai_at, ai_isI, ai_isJ, ai_isA, ai_ld, ai_1i, ai_2i, ai_2l, ai_cn, ai_j, ai_set, ai_set2, ai_nl, ai_rs, ai_sm, Value.category, hk0, hk1, lits, litb, litm, litm2, List.getElem?_cons_zero, List.getElem?_cons_succ, or_n0, bit_r, fi0, fi1, fi2, fi3, nI_toInt, nI_add, pk_mul, nI_leI, nI_ltI, nI_eq, pk_sub, ib_nI, nI_clamp, va_up_self, va_up_ne, va_up_up, va_up_comm, pk_us, pk_un, upd_up, updL_up, pk_uLs, pk_uLn, b01_1, b01_0, b01_1s, b01_0s, or_b, mm200, mu200, mm201, mu201, mm202, mu202, mm203, mu203, mm204, mu204, mm205, mu205, mm206, mu206, mm207, mu207, mm208, mu208, mm209, mu209, mm210, mu210, mm211, mu211, mm212, mu212, mm213, mu213, mm214, mu214, mm215, mu215, mm216, mu216, mm217, mu217, mm218, mu218, mm219, mu219, mm220, mu220, mm221, mu221, mm222, mu222, mm223, mu223, mm224, mu224, mm225, mu225, mm226, mu226, mm227, mu227, mm228, mu228, mm229, mu229, mm230, mu230]
      exact hQ1 1 i hq X3 Y3 f3.kx b15 b16
    · rw [x281_58, if_pos (by decide)]
      refine Gbad h (fun X3 Y3 f3 b15 b16 => ?_)
      simp (disch := omega) [w281_61, rt281, rt281, aw_st, ai_cls, ai_len, ai_p, ai_sw, ai_m, ai_c, ai_at, ai_isI, ai_isJ, ai_isA, ai_ld, ai_1i, ai_2i, ai_2l, ai_cn, ai_j, ai_set, ai_set2, ai_nl, ai_rs, ai_sm, Value.category, hk0, hk1, lits, litb, litm, litm2, List.getElem?_cons_zero, List.getElem?_cons_succ, or_n0, bit_r, fi0, fi1, fi2, fi3, nI_toInt, nI_add, pk_mul, nI_leI, nI_ltI, nI_eq, pk_sub, ib_nI, nI_clamp, va_up_self, va_up_ne, va_up_up, va_up_comm, pk_us, pk_un, upd_up, updL_up, pk_uLs, pk_uLn, b01_1, b01_0, b01_1s, b01_0s, or_b, mm200, mu200, mm201, mu201, mm202, mu202, mm203, mu203, mm204, mu204, mm205, mu205, mm206, mu206, mm207, mu207, mm208, mu208, mm209, mu209, mm210, mu210, mm211, mu211, mm212, mu212, mm213, mu213, mm214, mu214, mm215, mu215, mm216, mu216, mm217, mu217, mm218, mu218, mm219, mu219, mm220, mu220, mm221, mu221, mm222, mu222, mm223, mu223, mm224, mu224, mm225, mu225, mm226, mu226, mm227, mu227, mm228, mu228, mm229, mu229, mm230, mu230]
      exact hQ1 4 i hq X3 Y3 f3.kx b15 b16
  by_cases b1 : ¬ cK c i = 40 ∧ isBg (cY c i) = false
  · have n13 : ¬ cY c i = 13 := fun q => by rw [q] at b1; exact absurd b1.2 (by decide)
    have nl : lfN (cY c i) = mi1 := by
      unfold lfN
      rw [if_neg]
      have := b1.2
      unfold isBg at this
      simp only [Bool.or_eq_false_iff, decide_eq_false_iff_not] at this
      intro q
      rcases q with q | q | q | q | q | q
      · omega
      · omega
      · omega
      · omega
      · omega
      · rw [this.2] at q; exact absurd q (by decide)
    rw [nl] at wl
    have := bad 1 (some (.int (nI 0))) (some (.int (nI 0))) (some (.int mi1)) 34 (Or.inl ⟨rfl, rfl⟩) (by unfold opS; rw [if_pos b1])
    simp (disch := omega) [w281_0, w281_1, x281_4, w281_7, w281_8, w281_9, x281_11, w281_14, w281_15, x281_16, w281_19, w281_20, w281_21, w281_24, w281_25, w281_28, w281_29, w281_32, w281_33, rt281, ow281, pl12_158, rt281, aw_st, ai_cls, ai_len, ai_p, ai_sw, ai_m, ai_c, ai_at, ai_isI, ai_isJ, ai_isA, ai_ld, ai_1i, ai_2i, ai_2l, ai_cn, ai_j, ai_set, ai_set2, ai_nl, ai_rs, ai_sm, Value.category, hk0, hk1, lits, litb, litm, litm2, List.getElem?_cons_zero, List.getElem?_cons_succ, or_n0, bit_r, fi0, fi1, fi2, fi3, nI_toInt, nI_add, pk_mul, nI_leI, nI_ltI, nI_eq, pk_sub, ib_nI, nI_clamp, va_up_self, va_up_ne, va_up_up, va_up_comm, pk_us, pk_un, upd_up, updL_up, pk_uLs, pk_uLn, b01_1, b01_0, b01_1s, b01_0s, or_b, mm200, mu200, mm201, mu201, mm202, mu202, mm203, mu203, mm204, mu204, mm205, mu205, mm206, mu206, mm207, mu207, mm208, mu208, mm209, mu209, mm210, mu210, mm211, mu211, mm212, mu212, mm213, mu213, mm214, mu214, mm215, mu215, mm216, mu216, mm217, mu217, mm218, mu218, mm219, mu219, mm220, mu220, mm221, mu221, mm222, mu222, mm223, mu223, mm224, mu224, mm225, mu225, mm226, mu226, mm227, mu227, mm228, mu228, mm229, mu229, mm230, mu230, ofN, klv, w13, w40, wl, n13, b1.1, n0mi]
    exact this
  · have g38 : ∀ x1 x2 x3, (∀ (_ : ¬ (o = 20 ∨ 8 < dcS s)), aw ET G (d + 3) 281 62 [some (.ref 199), x1, x2, x3, none] [] 231 sl (mem X Y) Q) → aw ET G (d + 3) 281 38 [some (.ref 199), x1, x2, x3, none] [] 231 sl (mem X Y) Q := by
      intro x1 x2 x3 hg
      by_cases q : o = 20 ∨ 8 < dcS s
      · have := bad 4 x1 x2 x3 58 (Or.inr ⟨rfl, rfl⟩) (by unfold opS; rw [if_neg b1, if_pos q])
        by_cases q20 : o = 20
        · simp (disch := omega) [w281_38, x281_39, w281_42, w281_44, w281_47, x281_48, w281_51, w281_53, w281_56, w281_57, rt281, rt281, aw_st, ai_cls, ai_len, ai_p, ai_sw, ai_m, ai_c, ai_at, ai_isI, ai_isJ, ai_isA, ai_ld, ai_1i, ai_2i, ai_2l, ai_cn, ai_j, ai_set, ai_set2, ai_nl, ai_rs, ai_sm, Value.category, hk0, hk1, lits, litb, litm, litm2, List.getElem?_cons_zero, List.getElem?_cons_succ, or_n0, bit_r, fi0, fi1, fi2, fi3, nI_toInt, nI_add, pk_mul, nI_leI, nI_ltI, nI_eq, pk_sub, ib_nI, nI_clamp, va_up_self, va_up_ne, va_up_up, va_up_comm, pk_us, pk_un, upd_up, updL_up, pk_uLs, pk_uLn, b01_1, b01_0, b01_1s, b01_0s, or_b, mm200, mu200, mm201, mu201, mm202, mu202, mm203, mu203, mm204, mu204, mm205, mu205, mm206, mu206, mm207, mu207, mm208, mu208, mm209, mu209, mm210, mu210, mm211, mu211, mm212, mu212, mm213, mu213, mm214, mu214, mm215, mu215, mm216, mu216, mm217, mu217, mm218, mu218, mm219, mu219, mm220, mu220, mm221, mu221, mm222, mu222, mm223, mu223, mm224, mu224, mm225, mu225, mm226, mu226, mm227, mu227, mm228, mu228, mm229, mu229, mm230, mu230, e57, q20]
          exact this
        · have dl : dcS s ≤ 100 := by
            have : ∀ s : List Nat, dcS s ≤ s.length + 1 := by
              intro s
              induction s with
              | nil => exact Nat.le_refl _
              | cons a r ih =>
                show dcS r + (if a = 13 ∨ a = 40 then 1 else 0) ≤ r.length + 1 + 1
                split <;> omega
            have := this s
            omega
          simp (disch := omega) [w281_38, x281_39, w281_42, w281_44, w281_47, x281_48, w281_51, w281_53, w281_56, w281_57, rt281, rt281, aw_st, ai_cls, ai_len, ai_p, ai_sw, ai_m, ai_c, ai_at, ai_isI, ai_isJ, ai_isA, ai_ld, ai_1i, ai_2i, ai_2l, ai_cn, ai_j, ai_set, ai_set2, ai_nl, ai_rs, ai_sm, Value.category, hk0, hk1, lits, litb, litm, litm2, List.getElem?_cons_zero, List.getElem?_cons_succ, or_n0, bit_r, fi0, fi1, fi2, fi3, nI_toInt, nI_add, pk_mul, nI_leI, nI_ltI, nI_eq, pk_sub, ib_nI, nI_clamp, va_up_self, va_up_ne, va_up_up, va_up_comm, pk_us, pk_un, upd_up, updL_up, pk_uLs, pk_uLn, b01_1, b01_0, b01_1s, b01_0s, or_b, mm200, mu200, mm201, mu201, mm202, mu202, mm203, mu203, mm204, mu204, mm205, mu205, mm206, mu206, mm207, mu207, mm208, mu208, mm209, mu209, mm210, mu210, mm211, mu211, mm212, mu212, mm213, mu213, mm214, mu214, mm215, mu215, mm216, mu216, mm217, mu217, mm218, mu218, mm219, mu219, mm220, mu220, mm221, mu221, mm222, mu222, mm223, mu223, mm224, mu224, mm225, mu225, mm226, mu226, mm227, mu227, mm228, mu228, mm229, mu229, mm230, mu230, e57, q20, e59, show ¬ dcS s ≤ 8 by omega]
          exact this
      · have := hg q
        simp (disch := omega) [w281_38, x281_39, w281_42, w281_44, w281_47, x281_48, w281_51, w281_53, rt281, rt281, aw_st, ai_cls, ai_len, ai_p, ai_sw, ai_m, ai_c, ai_at, ai_isI, ai_isJ, ai_isA, ai_ld, ai_1i, ai_2i, ai_2l, ai_cn, ai_j, ai_set, ai_set2, ai_nl, ai_rs, ai_sm, Value.category, hk0, hk1, lits, litb, litm, litm2, List.getElem?_cons_zero, List.getElem?_cons_succ, or_n0, bit_r, fi0, fi1, fi2, fi3, nI_toInt, nI_add, pk_mul, nI_leI, nI_ltI, nI_eq, pk_sub, ib_nI, nI_clamp, va_up_self, va_up_ne, va_up_up, va_up_comm, pk_us, pk_un, upd_up, updL_up, pk_uLs, pk_uLn, b01_1, b01_0, b01_1s, b01_0s, or_b, mm200, mu200, mm201, mu201, mm202, mu202, mm203, mu203, mm204, mu204, mm205, mu205, mm206, mu206, mm207, mu207, mm208, mu208, mm209, mu209, mm210, mu210, mm211, mu211, mm212, mu212, mm213, mu213, mm214, mu214, mm215, mu215, mm216, mu216, mm217, mu217, mm218, mu218, mm219, mu219, mm220, mu220, mm221, mu221, mm222, mu222, mm223, mu223, mm224, mu224, mm225, mu225, mm226, mu226, mm227, mu227, mm228, mu228, mm229, mu229, mm230, mu230, e57, e59, show ¬ o = 20 by omega, show dcS s ≤ 8 by omega]
        exact this
    -- the first word is read
    have g62 : ∀ x1 x2 x3, ¬ cK c i = 1 → (∀ X1 Y1, HX (va_up X 199 (upd (X 199) 57 (nI (o + 1)))) Y X1 Y1 → RDR c (cA c i) (X1 199) (Y1 199) → SR X1 L s (o + 1) false → X1 199 15 = X 199 15 → aw ET G (d + 3) 281 76 [some (.ref 199), x1, x2, x3, none] [] 231 sl (mem X1 Y1) Q) → aw ET G (d + 3) 281 62 [some (.ref 199), x1, x2, x3, none] [] 231 sl (mem X Y) Q := by
      intro x1 x2 x3 hk1 hg
      have zz : KZ X (va_up X 199 (upd (X 199) 57 (nI (o + 1)))) := KZ_199 (fun j hj => pk_un (by omega))
      have sz : SR (va_up X 199 (upd (X 199) 57 (nI (o + 1)))) L s (o + 1) false := by
        obtain ⟨h1, h2, h3, h4, h5, h6, h7, h8⟩ := hs
        refine ⟨?_, ?_, ?_, ?_, ?_, ?_, ?_, h8⟩
        · rw [va_up_self, pk_un (by omega)]; exact h1
        · rw [va_up_self, pk_us]
        · rw [va_up_self, pk_un (by omega)]; exact h3
        · rw [va_up_self, pk_un (by omega)]; exact h4
        · rw [va_up_self, pk_un (by omega)]; exact h5
        · rw [va_up_ne _ _ (by omega)]; exact h6
        · rw [va_up_ne _ _ (by omega)]; exact h7
      simp (disch := omega) [w281_62, w281_63, x281_64, w281_67, w281_68, x281_69, w281_72, rt281, rt281, aw_st, ai_cls, ai_len, ai_p, ai_sw, ai_m, ai_c, ai_at, ai_isI, ai_isJ, ai_isA, ai_ld, ai_1i, ai_2i, ai_2l, ai_cn, ai_j, ai_set, ai_set2, ai_nl, ai_rs, ai_sm, Value.category, hk0, hk1, lits, litb, litm, litm2, List.getElem?_cons_zero, List.getElem?_cons_succ, or_n0, bit_r, fi0, fi1, fi2, fi3, nI_toInt, nI_add, pk_mul, nI_leI, nI_ltI, nI_eq, pk_sub, ib_nI, nI_clamp, va_up_self, va_up_ne, va_up_up, va_up_comm, pk_us, pk_un, upd_up, updL_up, pk_uLs, pk_uLn, b01_1, b01_0, b01_1s, b01_0s, or_b, mm200, mu200, mm201, mu201, mm202, mu202, mm203, mu203, mm204, mu204, mm205, mu205, mm206, mu206, mm207, mu207, mm208, mu208, mm209, mu209, mm210, mu210, mm211, mu211, mm212, mu212, mm213, mu213, mm214, mu214, mm215, mu215, mm216, mu216, mm217, mu217, mm218, mu218, mm219, mu219, mm220, mu220, mm221, mu221, mm222, mu222, mm223, mu223, mm224, mu224, mm225, mu225, mm226, mu226, mm227, mu227, mm228, mu228, mm229, mu229, mm230, mu230, e57]
      rw [x281_73, if_pos (by decide)]
      refine Ggo (d := d + 1) (KZ_rdr h zz) hk1 (OKr_cg ok (zz.1 200 (by omega) (by omega) (by omega))) hi (fun X1 Y1 f1 r1 g15 _ => hg X1 Y1 f1 r1 (SR_h sz f1) (by rw [g15, zz.2 15 (by omega)]))
    have zk : ∀ {X1 Y1}, HX (va_up X 199 (upd (X 199) 57 (nI (o + 1)))) Y X1 Y1 → KX X Y X1 Y1 := fun {X1 Y1} f1 => (KZ_199 (X := X) (fun j hj => pk_un (by omega))).kx.tr f1.kx
    -- a bracket, a not
    have push : ∀ (a : Nat) (x1 x2 x3 : Option Value) (X1 : mX) (Y1 : mY), a = 13 ∨ a = 40 → ¬ (o = 20 ∨ 8 < dcS s) → opS c nm P S i o L s (dcS s) = .inr (false, cA c i, o + 1, L, a :: s, dcS s + 1) → HX (va_up X 199 (upd (X 199) 57 (nI (o + 1)))) Y X1 Y1 → RDR c (cA c i) (X1 199) (Y1 199) → SR X1 L s (o + 1) false → X1 199 15 = X 199 15 → ∀ Z, Z = va_up (va_up X1 199 (upd (upd (X1 199) 58 (nI (s.length + 1))) 59 (nI (dcS s + 1)))) 225 (upd (X1 225) s.length (nI (rkc a))) → Q [.int (nI 1)] 231 sl (mem Z Y1) := by
      intro a x1 x2 x3 X1 Y1 ha _ hq f1 r1 s1 g15 Z hZ
      have zz : KZ X1 Z := ⟨fun k a _ b => by rw [hZ, va_up_ne _ _ b, va_up_ne _ _ a], fun j a => by rw [hZ, va_up_ne _ _ (by omega), va_up_self, pk_un (by omega), pk_un (by omega)]⟩
      have dca : dcS (a :: s) = dcS s + 1 := by
        show dcS s + (if a = 13 ∨ a = 40 then 1 else 0) = _
        rw [if_pos ha]
      have sZ : SR Z L (a :: s) (o + 1) false := SR_push s1 (by omega) (by rw [hZ, va_up_ne _ _ (by omega), va_up_self, pk_un (by omega), pk_un (by omega)]) (by rw [hZ, va_up_ne _ _ (by omega), va_up_self, pk_un (by omega), pk_un (by omega)]; exact s1.2.1) (by rw [hZ, va_up_ne _ _ (by omega), va_up_self, pk_un (by omega), pk_us]) (by rw [hZ, va_up_ne _ _ (by omega), va_up_self, pk_us, dca]) (by rw [hZ, va_up_ne _ _ (by omega), va_up_self, pk_un (by omega), pk_un (by omega)]; exact s1.2.2.2.2.1) (by rw [hZ, va_up_ne _ _ (by omega), va_up_ne _ _ (by omega)]) (by rw [hZ, va_up_self])
      exact hQ2 _ hq Z Y1 ((zk f1).tr zz.kx) ⟨sZ, KZ_rdr r1 zz, cA_le hi, dca.symm⟩ (by rw [zz.2 15 (by omega)]; exact g15)
    by_cases k40 : cK c i = 40
    · have y21 : cY c i = 21 := cY_no (by omega)
      have nl : lfN (cY c i) = mi1 := by rw [y21]; decide
      rw [nl] at wl
      have := g38 (some (.int (nI 0))) (some (.int (nI 1))) (some (.int mi1)) (fun q => g62 _ _ _ (by omega) (fun X1 Y1 f1 r1 s1 g15 => by
        have hp := push 40 none none none X1 Y1 (Or.inr rfl) q (by unfold opS; rw [if_neg b1, if_neg q, if_pos k40]) f1 r1 s1 g15 _ rfl
        have a58 : X1 199 58 = nI s.length := s1.2.2.1
        have a59 : X1 199 59 = nI (dcS s) := s1.2.2.2.1
        simp (disch := omega) [w281_76, w281_77, w281_80, w281_81, w281_84, x281_85, w281_88, x281_89, w281_92, w281_93, w281_96, w281_98, w281_101, w281_103, w281_104, w281_105, x281_106, w281_109, w281_110, x281_111, w281_114, w281_115, x281_116, w281_119, w281_120, x281_121, w281_124, w281_125, rt281, rt281, aw_st, ai_cls, ai_len, ai_p, ai_sw, ai_m, ai_c, ai_at, ai_isI, ai_isJ, ai_isA, ai_ld, ai_1i, ai_2i, ai_2l, ai_cn, ai_j, ai_set, ai_set2, ai_nl, ai_rs, ai_sm, Value.category, hk0, hk1, lits, litb, litm, litm2, List.getElem?_cons_zero, List.getElem?_cons_succ, or_n0, bit_r, fi0, fi1, fi2, fi3, nI_toInt, nI_add, pk_mul, nI_leI, nI_ltI, nI_eq, pk_sub, ib_nI, nI_clamp, va_up_self, va_up_ne, va_up_up, va_up_comm, pk_us, pk_un, upd_up, updL_up, pk_uLs, pk_uLn, b01_1, b01_0, b01_1s, b01_0s, or_b, mm200, mu200, mm201, mu201, mm202, mu202, mm203, mu203, mm204, mu204, mm205, mu205, mm206, mu206, mm207, mu207, mm208, mu208, mm209, mu209, mm210, mu210, mm211, mu211, mm212, mu212, mm213, mu213, mm214, mu214, mm215, mu215, mm216, mu216, mm217, mu217, mm218, mu218, mm219, mu219, mm220, mu220, mm221, mu221, mm222, mu222, mm223, mu223, mm224, mu224, mm225, mu225, mm226, mu226, mm227, mu227, mm228, mu228, mm229, mu229, mm230, mu230, a58, a59]
        exact hp))
      simp (disch := omega) [w281_0, w281_1, x281_4, w281_7, w281_8, w281_9, x281_11, w281_14, w281_15, x281_16, w281_19, w281_20, w281_21, w281_24, w281_25, rt281, ow281, pl12_158, rt281, aw_st, ai_cls, ai_len, ai_p, ai_sw, ai_m, ai_c, ai_at, ai_isI, ai_isJ, ai_isA, ai_ld, ai_1i, ai_2i, ai_2l, ai_cn, ai_j, ai_set, ai_set2, ai_nl, ai_rs, ai_sm, Value.category, hk0, hk1, lits, litb, litm, litm2, List.getElem?_cons_zero, List.getElem?_cons_succ, or_n0, bit_r, fi0, fi1, fi2, fi3, nI_toInt, nI_add, pk_mul, nI_leI, nI_ltI, nI_eq, pk_sub, ib_nI, nI_clamp, va_up_self, va_up_ne, va_up_up, va_up_comm, pk_us, pk_un, upd_up, updL_up, pk_uLs, pk_uLn, b01_1, b01_0, b01_1s, b01_0s, or_b, mm200, mu200, mm201, mu201, mm202, mu202, mm203, mu203, mm204, mu204, mm205, mu205, mm206, mu206, mm207, mu207, mm208, mu208, mm209, mu209, mm210, mu210, mm211, mu211, mm212, mu212, mm213, mu213, mm214, mu214, mm215, mu215, mm216, mu216, mm217, mu217, mm218, mu218, mm219, mu219, mm220, mu220, mm221, mu221, mm222, mu222, mm223, mu223, mm224, mu224, mm225, mu225, mm226, mu226, mm227, mu227, mm228, mu228, mm229, mu229, mm230, mu230, ofN, klv, w13, w40, wl, y21, k40]
      exact this
    · have hg : isBg (cY c i) = true := by
        cases q : isBg (cY c i)
        · exact absurd ⟨k40, q⟩ b1
        · rfl
      have hk2 : cK c i = 2 := by
        by_cases q : cK c i = 2
        · exact q
        · have e := cY_no q
          rw [e] at hg
          exact absurd hg (by decide)
      by_cases y13 : cY c i = 13
      · have nl : lfN (cY c i) = mi1 := by rw [y13]; decide
        rw [nl] at wl
        have := g38 (some (.int (nI 1))) (some (.int (nI 0))) (some (.int mi1)) (fun q => g62 _ _ _ (by omega) (fun X1 Y1 f1 r1 s1 g15 => by
          have hp := push 13 none none none X1 Y1 (Or.inl rfl) q (by unfold opS; rw [if_neg b1, if_neg q, if_neg k40, if_pos y13]) f1 r1 s1 g15 _ rfl
          have a58 : X1 199 58 = nI s.length := s1.2.2.1
          have a59 : X1 199 59 = nI (dcS s) := s1.2.2.2.1
          simp (disch := omega) [w281_76, w281_77, w281_80, w281_81, w281_84, x281_85, w281_88, x281_89, w281_92, w281_93, w281_96, w281_98, w281_101, w281_103, w281_104, w281_105, x281_106, w281_109, w281_110, x281_111, w281_114, w281_115, x281_116, w281_119, w281_120, x281_121, w281_124, w281_125, rt281, rt281, aw_st, ai_cls, ai_len, ai_p, ai_sw, ai_m, ai_c, ai_at, ai_isI, ai_isJ, ai_isA, ai_ld, ai_1i, ai_2i, ai_2l, ai_cn, ai_j, ai_set, ai_set2, ai_nl, ai_rs, ai_sm, Value.category, hk0, hk1, lits, litb, litm, litm2, List.getElem?_cons_zero, List.getElem?_cons_succ, or_n0, bit_r, fi0, fi1, fi2, fi3, nI_toInt, nI_add, pk_mul, nI_leI, nI_ltI, nI_eq, pk_sub, ib_nI, nI_clamp, va_up_self, va_up_ne, va_up_up, va_up_comm, pk_us, pk_un, upd_up, updL_up, pk_uLs, pk_uLn, b01_1, b01_0, b01_1s, b01_0s, or_b, mm200, mu200, mm201, mu201, mm202, mu202, mm203, mu203, mm204, mu204, mm205, mu205, mm206, mu206, mm207, mu207, mm208, mu208, mm209, mu209, mm210, mu210, mm211, mu211, mm212, mu212, mm213, mu213, mm214, mu214, mm215, mu215, mm216, mu216, mm217, mu217, mm218, mu218, mm219, mu219, mm220, mu220, mm221, mu221, mm222, mu222, mm223, mu223, mm224, mu224, mm225, mu225, mm226, mu226, mm227, mu227, mm228, mu228, mm229, mu229, mm230, mu230, a58, a59]
          exact hp))
        simp (disch := omega) [w281_0, w281_1, x281_4, w281_7, w281_8, w281_9, x281_11, w281_14, w281_15, x281_16, w281_19, w281_20, w281_21, rt281, ow281, pl12_158, rt281, aw_st, ai_cls, ai_len, ai_p, ai_sw, ai_m, ai_c, ai_at, ai_isI, ai_isJ, ai_isA, ai_ld, ai_1i, ai_2i, ai_2l, ai_cn, ai_j, ai_set, ai_set2, ai_nl, ai_rs, ai_sm, Value.category, hk0, hk1, lits, litb, litm, litm2, List.getElem?_cons_zero, List.getElem?_cons_succ, or_n0, bit_r, fi0, fi1, fi2, fi3, nI_toInt, nI_add, pk_mul, nI_leI, nI_ltI, nI_eq, pk_sub, ib_nI, nI_clamp, va_up_self, va_up_ne, va_up_up, va_up_comm, pk_us, pk_un, upd_up, updL_up, pk_uLs, pk_uLn, b01_1, b01_0, b01_1s, b01_0s, or_b, mm200, mu200, mm201, mu201, mm202, mu202, mm203, mu203, mm204, mu204, mm205, mu205, mm206, mu206, mm207, mu207, mm208, mu208, mm209, mu209, mm210, mu210, mm211, mu211, mm212, mu212, mm213, mu213, mm214, mu214, mm215, mu215, mm216, mu216, mm217, mu217, mm218, mu218, mm219, mu219, mm220, mu220, mm221, mu221, mm222, mu222, mm223, mu223, mm224, mu224, mm225, mu225, mm226, mu226, mm227, mu227, mm228, mu228, mm229, mu229, mm230, mu230, ofN, klv, w13, w40, wl, y13, k40]
        exact this
      · have lq : cY c i = 14 ∨ cY c i = 3 ∨ cY c i = 4 ∨ cY c i = 15 ∨ cY c i = 1 ∨ isMs (cY c i) = true := by
          have := hg
          unfold isBg at this
          simp only [Bool.or_eq_true, decide_eq_true_eq] at this
          rcases this with (((((q | q) | q) | q) | q) | q) | q
          · exact absurd q y13
          · exact Or.inl q
          · exact Or.inr (Or.inl q)
          · exact Or.inr (Or.inr (Or.inl q))
          · exact Or.inr (Or.inr (Or.inr (Or.inl q)))
          · exact Or.inr (Or.inr (Or.inr (Or.inr (Or.inl q))))
          · exact Or.inr (Or.inr (Or.inr (Or.inr (Or.inr q))))
        have nl : lfN (cY c i) = nI (rkc (cY c i)) := by unfold lfN; rw [if_pos lq]
        rw [nl] at wl
        have rk10 : rkc (cY c i) < 10 := by
          rcases lfb with e | ⟨v, hv, e⟩
          · rw [nl] at e
            exact absurd e (nI_mi1 (by
              unfold rkc
              repeat' split
              all_goals omega))
          · rw [nl, nI_eq (by
              unfold rkc
              repeat' split
              all_goals omega) (by omega)] at e
            omega
        have := g38 (some (.int (nI 0))) (some (.int (nI 0))) (some (.int (nI (rkc (cY c i))))) (fun q => g62 _ _ _ (by omega) (fun X1 Y1 f1 r1 s1 g15 => by
          have hop : opS c nm P S i o L s (dcS s) = (match leafS c nm P S (cY c i) (cA c i) with
            | .inl e => .inl e
            | .inr (i2, z) => .inr (true, i2, o + 1, L ++ [z], s, dcS s)) := by
            unfold opS
            rw [if_neg b1, if_neg q, if_neg k40, if_neg y13]
            rfl
          have kz : KZ X1 (va_up X1 199 (upd (X1 199) 60 (nI 1))) := KZ_199 (fun j hj => pk_un (by omega))
          have e1 : b01 (true = true) = nI 1 := by decide
          have s2 : SR (va_up X1 199 (upd (X1 199) 60 (nI 1))) L s (o + 1) true := by
            obtain ⟨h1, h2, h3, h4, h5, h6, h7, h8⟩ := s1
            refine ⟨?_, ?_, ?_, ?_, ?_, ?_, ?_, h8⟩
            · rw [va_up_self, pk_un (by omega)]; exact h1
            · rw [va_up_self, pk_un (by omega)]; exact h2
            · rw [va_up_self, pk_un (by omega)]; exact h3
            · rw [va_up_self, pk_un (by omega)]; exact h4
            · rw [va_up_self, pk_us, e1]
            · rw [va_up_ne _ _ (by omega)]; exact h6
            · rw [va_up_ne _ _ (by omega)]; exact h7
          have kx2 : KX X Y (va_up X1 199 (upd (X1 199) 60 (nI 1))) Y1 := (zk f1).tr kz.kx
          have r2 : RDR c (cA c i) (va_up X1 199 (upd (X1 199) 60 (nI 1)) 199) (Y1 199) := KZ_rdr r1 kz
          have ok2 : OKr c (va_up X1 199 (upd (X1 199) 60 (nI 1))) := OKr_cg ok (kx2.1 200 (by omega) (by omega) (by omega))
          have g15' : va_up X1 199 (upd (X1 199) 60 (nI 1)) 199 15 = X 199 15 := by rw [kz.2 15 (by omega)]; exact g15
          have hR2 : ∀ k, k < 21 → Y1 205 k = kl k := fun k hk => by rw [kx2.2.1 205 (by omega)]; exact hR k hk
          have hN2 := hN.kx kx2
          simp (disch := omega) [w281_76, w281_77, w281_80, w281_81, w281_126, w281_127, x281_128 (v := nI 0) (Or.inl rfl), x281_128 (v := nI 1) (Or.inr rfl), rt281, rt281, aw_st, ai_cls, ai_len, ai_p, ai_sw, ai_m, ai_c, ai_at, ai_isI, ai_isJ, ai_isA, ai_ld, ai_1i, ai_2i, ai_2l, ai_cn, ai_j, ai_set, ai_set2, ai_nl, ai_rs, ai_sm, Value.category, hk0, hk1, lits, litb, litm, litm2, List.getElem?_cons_zero, List.getElem?_cons_succ, or_n0, bit_r, fi0, fi1, fi2, fi3, nI_toInt, nI_add, pk_mul, nI_leI, nI_ltI, nI_eq, pk_sub, ib_nI, nI_clamp, va_up_self, va_up_ne, va_up_up, va_up_comm, pk_us, pk_un, upd_up, updL_up, pk_uLs, pk_uLn, b01_1, b01_0, b01_1s, b01_0s, or_b, mm200, mu200, mm201, mu201, mm202, mu202, mm203, mu203, mm204, mu204, mm205, mu205, mm206, mu206, mm207, mu207, mm208, mu208, mm209, mu209, mm210, mu210, mm211, mu211, mm212, mu212, mm213, mu213, mm214, mu214, mm215, mu215, mm216, mu216, mm217, mu217, mm218, mu218, mm219, mu219, mm220, mu220, mm221, mu221, mm222, mu222, mm223, mu223, mm224, mu224, mm225, mu225, mm226, mu226, mm227, mu227, mm228, mu228, mm229, mu229, mm230, mu230]
          generalize va_up X1 199 (upd (X1 199) 60 (nI 1)) = X2 at *
          have B1 : ∀ e j, leafS c nm P S (cY c i) (cA c i) = .inl (e, j) → gBad Q sl c X2 Y1 e j := fun e j q X3 Y3 f3 b15 b16 => hQ1 e j (by rw [hop, q]) X3 Y3 (kx2.tr f3.kx) b15 b16
          have B2 : ∀ i2 z, leafS c nm P S (cY c i) (cA c i) = .inr (i2, z) → i2 ≤ c.2.1 → ∀ X' Y', KX X2 Y1 X' Y' → SR X' (L ++ [z]) s (o + 1) true → RDR c i2 (X' 199) (Y' 199) → X' 199 15 = X2 199 15 → Q [.int (nI 1)] 231 sl (mem X' Y') := fun i2 z q hi2 X' Y' f sr r e => hQ2 _ (by rw [hop, q]) X' Y' (kx2.tr f) ⟨sr, r, hi2, rfl⟩ (e.trans g15')
          rcases lq with y | y | y | y | y | y
          · have hc : ∀ (Q : List Value → Nat → Nat → ai_M → Prop), aw ET G (d + 2) 278 0 [some (.ref 199), some (.int (nI 0)), some (.int (nI 0)), some (.int (nI 0))] [] 231 sl (mem X2 Y1) Q = Q [] 231 sl (mem (coX X2 L.length (nI (rkc 14)) (nI 0) (nI 0)) Y1) := fun Q => code_eq s2.1 (by omega)
            have er : rkc (cY c i) = 0 := by rw [y]; rfl
            simp (disch := omega) [w281_131, w281_132, w281_133, w281_136, w281_137, w281_138, w281_139, x281_140, w281_143, w281_144, rt281, rt281, aw_st, ai_cls, ai_len, ai_p, ai_sw, ai_m, ai_c, ai_at, ai_isI, ai_isJ, ai_isA, ai_ld, ai_1i, ai_2i, ai_2l, ai_cn, ai_j, ai_set, ai_set2, ai_nl, ai_rs, ai_sm, Value.category, hk0, hk1, lits, litb, litm, litm2, List.getElem?_cons_zero, List.getElem?_cons_succ, or_n0, bit_r, fi0, fi1, fi2, fi3, nI_toInt, nI_add, pk_mul, nI_leI, nI_ltI, nI_eq, pk_sub, ib_nI, nI_clamp, va_up_self, va_up_ne, va_up_up, va_up_comm, pk_us, pk_un, upd_up, updL_up, pk_uLs, pk_uLn, b01_1, b01_0, b01_1s, b01_0s, or_b, mm200, mu200, mm201, mu201, mm202, mu202, mm203, mu203, mm204, mu204, mm205, mu205, mm206, mu206, mm207, mu207, mm208, mu208, mm209, mu209, mm210, mu210, mm211, mu211, mm212, mu212, mm213, mu213, mm214, mu214, mm215, mu215, mm216, mu216, mm217, mu217, mm218, mu218, mm219, mu219, mm220, mu220, mm221, mu221, mm222, mu222, mm223, mu223, mm224, mu224, mm225, mu225, mm226, mu226, mm227, mu227, mm228, mu228, mm229, mu229, mm230, mu230, er, hc]
            exact B2 (cA c i) (14, 0, 0) (by rw [y]; rfl) (cA_le hi) _ Y1 KZ_co.kx (SR_co (z := (14, 0, 0)) s2) (KZ_rdr r2 KZ_co) (KZ_co.2 15 (by omega))
          · have hc : ∀ (Q : List Value → Nat → Nat → ai_M → Prop), aw ET G (d + 2) 278 0 [some (.ref 199), some (.int (nI 1)), some (.int (nI 0)), some (.int (nI 0))] [] 231 sl (mem X2 Y1) Q = Q [] 231 sl (mem (coX X2 L.length (nI (rkc 3)) (nI 0) (nI 0)) Y1) := fun Q => code_eq s2.1 (by omega)
            have er : rkc (cY c i) = 1 := by rw [y]; rfl
            simp (disch := omega) [w281_131, w281_132, w281_133, w281_136, w281_137, w281_138, w281_139, x281_140, w281_143, w281_144, rt281, rt281, aw_st, ai_cls, ai_len, ai_p, ai_sw, ai_m, ai_c, ai_at, ai_isI, ai_isJ, ai_isA, ai_ld, ai_1i, ai_2i, ai_2l, ai_cn, ai_j, ai_set, ai_set2, ai_nl, ai_rs, ai_sm, Value.category, hk0, hk1, lits, litb, litm, litm2, List.getElem?_cons_zero, List.getElem?_cons_succ, or_n0, bit_r, fi0, fi1, fi2, fi3, nI_toInt, nI_add, pk_mul, nI_leI, nI_ltI, nI_eq, pk_sub, ib_nI, nI_clamp, va_up_self, va_up_ne, va_up_up, va_up_comm, pk_us, pk_un, upd_up, updL_up, pk_uLs, pk_uLn, b01_1, b01_0, b01_1s, b01_0s, or_b, mm200, mu200, mm201, mu201, mm202, mu202, mm203, mu203, mm204, mu204, mm205, mu205, mm206, mu206, mm207, mu207, mm208, mu208, mm209, mu209, mm210, mu210, mm211, mu211, mm212, mu212, mm213, mu213, mm214, mu214, mm215, mu215, mm216, mu216, mm217, mu217, mm218, mu218, mm219, mu219, mm220, mu220, mm221, mu221, mm222, mu222, mm223, mu223, mm224, mu224, mm225, mu225, mm226, mu226, mm227, mu227, mm228, mu228, mm229, mu229, mm230, mu230, er, hc]
            exact B2 (cA c i) (3, 0, 0) (by rw [y]; rfl) (cA_le hi) _ Y1 KZ_co.kx (SR_co (z := (3, 0, 0)) s2) (KZ_rdr r2 KZ_co) (KZ_co.2 15 (by omega))
          · have hc : ∀ (Q : List Value → Nat → Nat → ai_M → Prop), aw ET G (d + 2) 278 0 [some (.ref 199), some (.int (nI 2)), some (.int (nI 0)), some (.int (nI 0))] [] 231 sl (mem X2 Y1) Q = Q [] 231 sl (mem (coX X2 L.length (nI (rkc 4)) (nI 0) (nI 0)) Y1) := fun Q => code_eq s2.1 (by omega)
            have er : rkc (cY c i) = 2 := by rw [y]; rfl
            simp (disch := omega) [w281_131, w281_132, w281_133, w281_136, w281_137, w281_138, w281_139, x281_140, w281_143, w281_144, rt281, rt281, aw_st, ai_cls, ai_len, ai_p, ai_sw, ai_m, ai_c, ai_at, ai_isI, ai_isJ, ai_isA, ai_ld, ai_1i, ai_2i, ai_2l, ai_cn, ai_j, ai_set, ai_set2, ai_nl, ai_rs, ai_sm, Value.category, hk0, hk1, lits, litb, litm, litm2, List.getElem?_cons_zero, List.getElem?_cons_succ, or_n0, bit_r, fi0, fi1, fi2, fi3, nI_toInt, nI_add, pk_mul, nI_leI, nI_ltI, nI_eq, pk_sub, ib_nI, nI_clamp, va_up_self, va_up_ne, va_up_up, va_up_comm, pk_us, pk_un, upd_up, updL_up, pk_uLs, pk_uLn, b01_1, b01_0, b01_1s, b01_0s, or_b, mm200, mu200, mm201, mu201, mm202, mu202, mm203, mu203, mm204, mu204, mm205, mu205, mm206, mu206, mm207, mu207, mm208, mu208, mm209, mu209, mm210, mu210, mm211, mu211, mm212, mu212, mm213, mu213, mm214, mu214, mm215, mu215, mm216, mu216, mm217, mu217, mm218, mu218, mm219, mu219, mm220, mu220, mm221, mu221, mm222, mu222, mm223, mu223, mm224, mu224, mm225, mu225, mm226, mu226, mm227, mu227, mm228, mu228, mm229, mu229, mm230, mu230, er, hc]
            exact B2 (cA c i) (4, 0, 0) (by rw [y]; rfl) (cA_le hi) _ Y1 KZ_co.kx (SR_co (z := (4, 0, 0)) s2) (KZ_rdr r2 KZ_co) (KZ_co.2 15 (by omega))
          · have er : rkc (cY c i) = 3 := by rw [y]; rfl
            simp (disch := omega) [w281_131, w281_132, w281_133, w281_136, w281_137, w281_138, w281_139, x281_140, w281_143, w281_144, w281_145, w281_146, w281_147, rt281, rt281, aw_st, ai_cls, ai_len, ai_p, ai_sw, ai_m, ai_c, ai_at, ai_isI, ai_isJ, ai_isA, ai_ld, ai_1i, ai_2i, ai_2l, ai_cn, ai_j, ai_set, ai_set2, ai_nl, ai_rs, ai_sm, Value.category, hk0, hk1, lits, litb, litm, litm2, List.getElem?_cons_zero, List.getElem?_cons_succ, or_n0, bit_r, fi0, fi1, fi2, fi3, nI_toInt, nI_add, pk_mul, nI_leI, nI_ltI, nI_eq, pk_sub, ib_nI, nI_clamp, va_up_self, va_up_ne, va_up_up, va_up_comm, pk_us, pk_un, upd_up, updL_up, pk_uLs, pk_uLn, b01_1, b01_0, b01_1s, b01_0s, or_b, mm200, mu200, mm201, mu201, mm202, mu202, mm203, mu203, mm204, mu204, mm205, mu205, mm206, mu206, mm207, mu207, mm208, mu208, mm209, mu209, mm210, mu210, mm211, mu211, mm212, mu212, mm213, mu213, mm214, mu214, mm215, mu215, mm216, mu216, mm217, mu217, mm218, mu218, mm219, mu219, mm220, mu220, mm221, mu221, mm222, mu222, mm223, mu223, mm224, mu224, mm225, mu225, mm226, mu226, mm227, mu227, mm228, mu228, mm229, mu229, mm230, mu230, er]
            refine name_leaf (d := d + 1) (fr := 8) (v := 1) (N := S) (nmx := nmS nm) hN2.2.1 (Or.inl ⟨rfl, rfl, rfl⟩) 15 rfl hR2 hN2.2.2.2.2.2 hN2.2.2.2.1 s2 r2 ok2 (cA_le hi) (by omega) (fun e j q => B1 e j ?_) (fun k q X' Y' f sr r e => B2 _ (15, 0, k) ?_ (cA_le (cA_le hi)) X' Y' f sr r e)
            · rw [y]; unfold leafS; rw [if_pos rfl, q]
            · rw [y]; unfold leafS; rw [if_pos rfl, q]
          · have er : rkc (cY c i) = 4 := by rw [y]; rfl
            simp (disch := omega) [w281_131, w281_132, w281_133, w281_136, w281_137, w281_138, w281_139, x281_140, w281_143, w281_144, w281_145, w281_146, w281_147, rt281, rt281, aw_st, ai_cls, ai_len, ai_p, ai_sw, ai_m, ai_c, ai_at, ai_isI, ai_isJ, ai_isA, ai_ld, ai_1i, ai_2i, ai_2l, ai_cn, ai_j, ai_set, ai_set2, ai_nl, ai_rs, ai_sm, Value.category, hk0, hk1, lits, litb, litm, litm2, List.getElem?_cons_zero, List.getElem?_cons_succ, or_n0, bit_r, fi0, fi1, fi2, fi3, nI_toInt, nI_add, pk_mul, nI_leI, nI_ltI, nI_eq, pk_sub, ib_nI, nI_clamp, va_up_self, va_up_ne, va_up_up, va_up_comm, pk_us, pk_un, upd_up, updL_up, pk_uLs, pk_uLn, b01_1, b01_0, b01_1s, b01_0s, or_b, mm200, mu200, mm201, mu201, mm202, mu202, mm203, mu203, mm204, mu204, mm205, mu205, mm206, mu206, mm207, mu207, mm208, mu208, mm209, mu209, mm210, mu210, mm211, mu211, mm212, mu212, mm213, mu213, mm214, mu214, mm215, mu215, mm216, mu216, mm217, mu217, mm218, mu218, mm219, mu219, mm220, mu220, mm221, mu221, mm222, mu222, mm223, mu223, mm224, mu224, mm225, mu225, mm226, mu226, mm227, mu227, mm228, mu228, mm229, mu229, mm230, mu230, er]
            refine name_leaf (d := d + 1) (fr := 0) (v := 0) (N := P) (nmx := nm) hN2.1 (Or.inr ⟨rfl, rfl, rfl⟩) 1 rfl hR2 hN2.2.2.2.2.1 hN2.2.2.1 s2 r2 ok2 (cA_le hi) (by omega) (fun e j q => B1 e j ?_) (fun k q X' Y' f sr r e => B2 _ (1, 0, k) ?_ (cA_le (cA_le hi)) X' Y' f sr r e)
            · rw [y]; unfold leafS; rw [if_neg (by decide), if_pos rfl, q]
            · rw [y]; unfold leafS; rw [if_neg (by decide), if_pos rfl, q]
          · have hyy : 16 ≤ cY c i ∧ cY c i ≤ 20 := by
              have := y
              unfold isMs at this
              rw [Bool.and_eq_true] at this
              exact ⟨of_decide_eq_true this.1, of_decide_eq_true this.2⟩
            have r5 : 5 ≤ rkc (cY c i) := by
              unfold rkc
              rw [if_neg (by omega), if_neg (by omega), if_neg (by omega), if_neg (by omega), if_neg (by omega), if_neg (by omega), if_neg (by omega), if_neg (by omega), if_neg (by omega)]
              omega
            simp (disch := omega) [w281_131, w281_132, w281_133, w281_136, w281_137, w281_138, w281_139, x281_140, w281_143, w281_144, w281_145, w281_146, w281_147, rt281, rt281, aw_st, ai_cls, ai_len, ai_p, ai_sw, ai_m, ai_c, ai_at, ai_isI, ai_isJ, ai_isA, ai_ld, ai_1i, ai_2i, ai_2l, ai_cn, ai_j, ai_set, ai_set2, ai_nl, ai_rs, ai_sm, Value.category, hk0, hk1, lits, litb, litm, litm2, List.getElem?_cons_zero, List.getElem?_cons_succ, or_n0, bit_r, fi0, fi1, fi2, fi3, nI_toInt, nI_add, pk_mul, nI_leI, nI_ltI, nI_eq, pk_sub, ib_nI, nI_clamp, va_up_self, va_up_ne, va_up_up, va_up_comm, pk_us, pk_un, upd_up, updL_up, pk_uLs, pk_uLn, b01_1, b01_0, b01_1s, b01_0s, or_b, mm200, mu200, mm201, mu201, mm202, mu202, mm203, mu203, mm204, mu204, mm205, mu205, mm206, mu206, mm207, mu207, mm208, mu208, mm209, mu209, mm210, mu210, mm211, mu211, mm212, mu212, mm213, mu213, mm214, mu214, mm215, mu215, mm216, mu216, mm217, mu217, mm218, mu218, mm219, mu219, mm220, mu220, mm221, mu221, mm222, mu222, mm223, mu223, mm224, mu224, mm225, mu225, mm226, mu226, mm227, mu227, mm228, mu228, mm229, mu229, mm230, mu230, show 3 ≤ rkc (cY c i) by omega, show 5 ≤ rkc (cY c i) by omega]
            exact meas_leaf (d := d + 1) (nm := nm) (P := P) (S := S) (cY c i) y rfl s2 r2 ok2 (cA_le hi) (by omega) B1 (fun i2 z q hi2 X' Y' f sr r e => B2 i2 z q hi2 X' Y' f sr r e)))
        simp (disch := omega) [w281_0, w281_1, x281_4, w281_7, w281_8, w281_9, x281_11, w281_14, w281_15, x281_16, w281_19, w281_20, w281_21, w281_24, w281_25, w281_28, w281_29, rt281, ow281, pl12_158, rt281, aw_st, ai_cls, ai_len, ai_p, ai_sw, ai_m, ai_c, ai_at, ai_isI, ai_isJ, ai_isA, ai_ld, ai_1i, ai_2i, ai_2l, ai_cn, ai_j, ai_set, ai_set2, ai_nl, ai_rs, ai_sm, Value.category, hk0, hk1, lits, litb, litm, litm2, List.getElem?_cons_zero, List.getElem?_cons_succ, or_n0, bit_r, fi0, fi1, fi2, fi3, nI_toInt, nI_add, pk_mul, nI_leI, nI_ltI, nI_eq, pk_sub, ib_nI, nI_clamp, va_up_self, va_up_ne, va_up_up, va_up_comm, pk_us, pk_un, upd_up, updL_up, pk_uLs, pk_uLn, b01_1, b01_0, b01_1s, b01_0s, or_b, mm200, mu200, mm201, mu201, mm202, mu202, mm203, mu203, mm204, mu204, mm205, mu205, mm206, mu206, mm207, mu207, mm208, mu208, mm209, mu209, mm210, mu210, mm211, mu211, mm212, mu212, mm213, mu213, mm214, mu214, mm215, mu215, mm216, mu216, mm217, mu217, mm218, mu218, mm219, mu219, mm220, mu220, mm221, mu221, mm222, mu222, mm223, mu223, mm224, mu224, mm225, mu225, mm226, mu226, mm227, mu227, mm228, mu228, mm229, mu229, mm230, mu230, ofN, klv, w13, w40, wl, y13, k40]
        exact this
end RSD
