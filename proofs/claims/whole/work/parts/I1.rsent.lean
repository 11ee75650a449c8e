/-! A SENTENCE's text: the reference, in all -/
section RSE
variable {G : ai_G} {d sl : Nat} {Q : List Value → Nat → Nat → ai_M → Prop} {c : TC} {P S : Nat} {nm : Nat → List Nat} {t : Nat → Nat} {n : Nat}
def invS (a : AS) : Prop := a.2.2.1 ≤ 20 ∧ a.2.2.2.1.length + a.2.2.2.2.1.length + (if a.1 = true then 1 else 0) ≤ 2 * a.2.2.1
theorem inv_bh {i o : Nat} {L : List SC} {s : List Nat} {a' : AS} (h : invS (true, i, o, L, s, dcS s)) (e : bhS c i o L s (dcS s) = .inr a') : invS a' := by
  obtain ⟨h1, h2⟩ := h
  have h1 : o ≤ 20 := h1
  have h2 : L.length + s.length + 1 ≤ 2 * o := h2
  have n1 := (nt_dc s L).2
  unfold bhS at e
  generalize ntS L s (dcS s) = N at *
  obtain ⟨L1, t1, d1⟩ := N
  have n1 : L1.length + t1.length = L.length + s.length := n1
  split at e
  · have hj := (jn_dc (a := 12) t1 L1).2
    injection e with e
    rw [← e]
    refine ⟨h1, ?_⟩
    show (jnS 12 L1 t1).1.length + ((jnS 12 L1 t1).2.length + 1) + 0 ≤ 2 * o
    omega
  · split at e
    · have hj := (jn_dc (a := 11) t1 L1).2
      injection e with e
      rw [← e]
      refine ⟨h1, ?_⟩
      show (jnS 11 L1 t1).1.length + ((jnS 11 L1 t1).2.length + 1) + 0 ≤ 2 * o
      omega
    · have hj := (jn_dc (a := 11) t1 L1).2
      split at e
      · split at e
        · injection e with e
          rw [← e]
          exact ⟨h1, h2⟩
        · cases e
      · rename_i q r eq
        split at e
        · injection e with e
          rw [← e]
          refine ⟨h1, ?_⟩
          have eq : (jnS 11 L1 t1).2 = q :: r := eq
          rw [eq] at hj
          have hj : (jnS 11 L1 t1).1.length + (r.length + 1) = L1.length + t1.length := hj
          show (jnS 11 L1 t1).1.length + r.length + 1 ≤ 2 * o
          omega
        · cases e
theorem inv_op {i o dp : Nat} {L : List SC} {s : List Nat} {a' : AS} (h : invS (false, i, o, L, s, dp)) (e : opS c nm P S i o L s dp = .inr a') : invS a' := by
  obtain ⟨h1, h2⟩ := h
  have h1 : o ≤ 20 := h1
  have h2 : L.length + s.length + 0 ≤ 2 * o := h2
  unfold opS at e
  split at e
  · cases e
  · split at e
    · cases e
    · rename_i q
      have ho : o + 1 ≤ 20 := by omega
      split at e
      · injection e with e
        rw [← e]
        exact ⟨ho, by show L.length + (s.length + 1) + 0 ≤ 2 * (o + 1); omega⟩
      · split at e
        · injection e with e
          rw [← e]
          exact ⟨ho, by show L.length + (s.length + 1) + 0 ≤ 2 * (o + 1); omega⟩
        · split at e
          · cases e
          · injection e with e
            rw [← e]
            refine ⟨ho, ?_⟩
            show (L ++ _).length + s.length + 1 ≤ 2 * (o + 1)
            rw [List.length_append]
            show L.length + 1 + s.length + 1 ≤ 2 * (o + 1)
            omega
theorem Gstart {X : mX} {Y : mY} {i : Nat} (h3 : X 199 3 = nI c.2.1) (h4 : X 199 4 = nI i) (h5 : X 199 5 = nI c.2.2) (ok : OKr c X) (hi : i ≤ c.2.1) (hQ : ∀ X' Y', HX X Y X' Y' → RDR c i (X' 199) (Y' 199) → X' 199 15 = X 199 15 → Q [] 231 sl (mem X' Y')) : aw ET G (d + 1) 184 0 [some (.ref 199), none, none, none] [] 231 sl (mem X Y) Q := by
  have := go_wp (G := G) (d := d) (sl := sl) (Q := Q) (X := X) (Y := Y) (F := X 199) (W := Y 199) (c := c) (i := i) h3 h4 h5 ok hi (fun F' W' r g _ => hQ _ _ (HX_F g.fe) (by rw [va_up_self, va_up_self]; exact r) (by rw [va_up_self]; exact g 15 (by omega) (by omega)))
  rw [va_id, va_id] at this
  exact this
theorem SRA_KX {X X' : mX} {Y Y' : mY} (f : KX X Y X' Y') (ok : OKr c X) : OKr c X' := OKr_cg ok (f.1 200 (by omega) (by omega) (by omega))
set_option maxHeartbeats 16000000 in
theorem rs_step {X : mX} {Y : mY} {a : AS} (hR : ∀ k, k < 21 → Y 205 k = kl k) (hN : RNM X Y nm P S) (ok : OKr c X) (ha : SRA c X Y a) (hv : invS a) (hend : ¬ (a.1 = true ∧ cK c a.2.1 = 0 ∧ (jnS 11 (ntS a.2.2.2.1 a.2.2.2.2.1 (dcS a.2.2.2.2.1)).1 (ntS a.2.2.2.1 a.2.2.2.2.1 (dcS a.2.2.2.2.1)).2.1).2 = [])) (hQ1 : ∀ e j, stS c nm P S a = .inl (e, j) → ∀ X' Y', KX X Y X' Y' → X' 199 15 = nI e → Q [.int (mi1 - nI (cP c j))] 231 sl (mem X' Y')) (hQ2 : ∀ a', stS c nm P S a = .inr a' → invS a' → ∀ X' Y', KX X Y X' Y' → SRA c X' Y' a' → X' 199 15 = X 199 15 → aw ET G (d + 4) 276 48 [some (.ref 199), some (.int (nI 1)), none] [] 231 sl (mem X' Y') Q) : aw ET G (d + 4) 276 48 [some (.ref 199), some (.int (nI 1)), none] [] 231 sl (mem X Y) Q := by
  obtain ⟨w, i, o, L, s, dp⟩ := a
  obtain ⟨sr, r, hi, hdp⟩ := ha
  have sr : SR X L s o w := sr
  have r : RDR c i (X 199) (Y 199) := r
  have hi : i ≤ c.2.1 := hi
  have hdp : dp = dcS s := hdp
  subst hdp
  have hv1 : o ≤ 20 := hv.1
  have hv2 : L.length + s.length + (if w = true then 1 else 0) ≤ 2 * o := hv.2
  have e60 : X 199 60 = b01 (w = true) := sr.2.2.2.2.1
  have h11 : X 199 11 = nI (rkN (cK c i)) := r.2.2.2.1
  have rle := rkN_le (k := cK c i)
  cases w with
  | false =>
    have e0 : b01 (false = true) = nI 0 := by decide
    rw [e0] at e60
    rw [w276_48]
    simp (disch := omega) [w276_49, w276_52, x276_53, w276_56, w276_101, x276_102, w276_105, w276_108, x276_109, w276_112, w276_115, w276_118, rt276, rt276, aw_st, ai_cls, ai_len, ai_p, ai_sw, ai_m, ai_c, ai_at, ai_isI, ai_isJ, ai_isA, ai_ld, ai_1i, ai_2i, ai_2l, ai_cn, ai_j, ai_set, ai_set2, ai_nl, ai_rs, ai_sm, Value.category, hk0, hk1, lits, litb, litm, litm2, List.getElem?_cons_zero, List.getElem?_cons_succ, or_n0, bit_r, fi0, fi1, fi2, fi3, nI_toInt, nI_add, pk_mul, nI_leI, nI_ltI, nI_eq, pk_sub, ib_nI, nI_clamp, va_up_self, va_up_ne, va_up_up, va_up_comm, pk_us, pk_un, upd_up, updL_up, pk_uLs, pk_uLn, b01_1, b01_0, b01_1s, b01_0s, or_b, mm200, mu200, mm201, mu201, mm202, mu202, mm203, mu203, mm204, mu204, mm205, mu205, mm206, mu206, mm207, mu207, mm208, mu208, mm209, mu209, mm210, mu210, mm211, mu211, mm212, mu212, mm213, mu213, mm214, mu214, mm215, mu215, mm216, mu216, mm217, mu217, mm218, mu218, mm219, mu219, mm220, mu220, mm221, mu221, mm222, mu222, mm223, mu223, mm224, mu224, mm225, mu225, mm226, mu226, mm227, mu227, mm228, mu228, mm229, mu229, mm230, mu230, e60]
    rw [x276_119, if_pos (by decide)]
    refine operand_wp (d := d) hR hN sr r ok hi hv1 (show L.length + s.length ≤ 42 by omega) (fun e j q X' Y' f b15 b16 => ?_) (fun a' q X' Y' f g b15 => ?_)
    · simp (disch := omega) [w276_122, w276_125, w276_126, x276_127, w276_130, w276_131, rt276, rt276, aw_st, ai_cls, ai_len, ai_p, ai_sw, ai_m, ai_c, ai_at, ai_isI, ai_isJ, ai_isA, ai_ld, ai_1i, ai_2i, ai_2l, ai_cn, ai_j, ai_set, ai_set2, ai_nl, ai_rs, ai_sm, Value.category, hk0, hk1, lits, litb, litm, litm2, List.getElem?_cons_zero, List.getElem?_cons_succ, or_n0, bit_r, fi0, fi1, fi2, fi3, nI_toInt, nI_add, pk_mul, nI_leI, nI_ltI, nI_eq, ib_nI, nI_clamp, va_up_self, va_up_ne, va_up_up, va_up_comm, pk_us, pk_un, upd_up, updL_up, pk_uLs, pk_uLn, b01_1, b01_0, b01_1s, b01_0s, or_b, mm200, mu200, mm201, mu201, mm202, mu202, mm203, mu203, mm204, mu204, mm205, mu205, mm206, mu206, mm207, mu207, mm208, mu208, mm209, mu209, mm210, mu210, mm211, mu211, mm212, mu212, mm213, mu213, mm214, mu214, mm215, mu215, mm216, mu216, mm217, mu217, mm218, mu218, mm219, mu219, mm220, mu220, mm221, mu221, mm222, mu222, mm223, mu223, mm224, mu224, mm225, mu225, mm226, mu226, mm227, mu227, mm228, mu228, mm229, mu229, mm230, mu230, b16]
      exact hQ1 e j q X' Y' f b15
    · have := hQ2 a' q (inv_op hv q) X' Y' f g b15
      simp (disch := omega) [w276_122, rt276, rt276, aw_st, ai_cls, ai_len, ai_p, ai_sw, ai_m, ai_c, ai_at, ai_isI, ai_isJ, ai_isA, ai_ld, ai_1i, ai_2i, ai_2l, ai_cn, ai_j, ai_set, ai_set2, ai_nl, ai_rs, ai_sm, Value.category, hk0, hk1, lits, litb, litm, litm2, List.getElem?_cons_zero, List.getElem?_cons_succ, or_n0, bit_r, fi0, fi1, fi2, fi3, nI_toInt, nI_add, pk_mul, nI_leI, nI_ltI, nI_eq, pk_sub, ib_nI, nI_clamp, va_up_self, va_up_ne, va_up_up, va_up_comm, pk_us, pk_un, upd_up, updL_up, pk_uLs, pk_uLn, b01_1, b01_0, b01_1s, b01_0s, or_b, mm200, mu200, mm201, mu201, mm202, mu202, mm203, mu203, mm204, mu204, mm205, mu205, mm206, mu206, mm207, mu207, mm208, mu208, mm209, mu209, mm210, mu210, mm211, mu211, mm212, mu212, mm213, mu213, mm214, mu214, mm215, mu215, mm216, mu216, mm217, mu217, mm218, mu218, mm219, mu219, mm220, mu220, mm221, mu221, mm222, mu222, mm223, mu223, mm224, mu224, mm225, mu225, mm226, mu226, mm227, mu227, mm228, mu228, mm229, mu229, mm230, mu230]
      exact this
  | true =>
    have e1 : b01 (true = true) = nI 1 := by decide
    rw [e1] at e60
    by_cases k0 : cK c i = 0
    · have hr0 : rkN (cK c i) = 0 := by rw [k0]; rfl
      rw [hr0] at h11
      have y21 : cY c i = 21 := cY_no (by omega)
      rw [w276_48]
      simp (disch := omega) [w276_49, w276_52, x276_53, w276_56, w276_59, x276_60, w276_63, w276_66, rt276, rt276, aw_st, ai_cls, ai_len, ai_p, ai_sw, ai_m, ai_c, ai_at, ai_isI, ai_isJ, ai_isA, ai_ld, ai_1i, ai_2i, ai_2l, ai_cn, ai_j, ai_set, ai_set2, ai_nl, ai_rs, ai_sm, Value.category, hk0, hk1, lits, litb, litm, litm2, List.getElem?_cons_zero, List.getElem?_cons_succ, or_n0, bit_r, fi0, fi1, fi2, fi3, nI_toInt, nI_add, pk_mul, nI_leI, nI_ltI, nI_eq, pk_sub, ib_nI, nI_clamp, va_up_self, va_up_ne, va_up_up, va_up_comm, pk_us, pk_un, upd_up, updL_up, pk_uLs, pk_uLn, b01_1, b01_0, b01_1s, b01_0s, or_b, mm200, mu200, mm201, mu201, mm202, mu202, mm203, mu203, mm204, mu204, mm205, mu205, mm206, mu206, mm207, mu207, mm208, mu208, mm209, mu209, mm210, mu210, mm211, mu211, mm212, mu212, mm213, mu213, mm214, mu214, mm215, mu215, mm216, mu216, mm217, mu217, mm218, mu218, mm219, mu219, mm220, mu220, mm221, mu221, mm222, mu222, mm223, mu223, mm224, mu224, mm225, mu225, mm226, mu226, mm227, mu227, mm228, mu228, mm229, mu229, mm230, mu230, e60, h11]
      rw [x276_67, if_pos (by decide)]
      refine nots_wp (d := d + 2) s L X sr (by omega) (fun X1 z1 s1 => ?_)
      have n1 := nt_dc s L
      simp (disch := omega) [w276_70, w276_71, rt276, rt276, aw_st, ai_cls, ai_len, ai_p, ai_sw, ai_m, ai_c, ai_at, ai_isI, ai_isJ, ai_isA, ai_ld, ai_1i, ai_2i, ai_2l, ai_cn, ai_j, ai_set, ai_set2, ai_nl, ai_rs, ai_sm, Value.category, hk0, hk1, lits, litb, litm, litm2, List.getElem?_cons_zero, List.getElem?_cons_succ, or_n0, bit_r, fi0, fi1, fi2, fi3, nI_toInt, nI_add, pk_mul, nI_leI, nI_ltI, nI_eq, pk_sub, ib_nI, nI_clamp, va_up_self, va_up_ne, va_up_up, va_up_comm, pk_us, pk_un, upd_up, updL_up, pk_uLs, pk_uLn, b01_1, b01_0, b01_1s, b01_0s, or_b, mm200, mu200, mm201, mu201, mm202, mu202, mm203, mu203, mm204, mu204, mm205, mu205, mm206, mu206, mm207, mu207, mm208, mu208, mm209, mu209, mm210, mu210, mm211, mu211, mm212, mu212, mm213, mu213, mm214, mu214, mm215, mu215, mm216, mu216, mm217, mu217, mm218, mu218, mm219, mu219, mm220, mu220, mm221, mu221, mm222, mu222, mm223, mu223, mm224, mu224, mm225, mu225, mm226, mu226, mm227, mu227, mm228, mu228, mm229, mu229, mm230, mu230]
      rw [x276_73, if_pos (by decide)]
      have hst : stS c nm P S (true, i, o, L, s, dcS s) = bhS c i o L s (dcS s) := rfl
      rw [hst] at hQ1
      unfold bhS at hQ1
      rw [if_neg (by omega), if_neg (by omega)] at hQ1
      have hend : ¬ (jnS 11 (ntS L s (dcS s)).1 (ntS L s (dcS s)).2.1).2 = [] := fun q => hend ⟨rfl, k0, q⟩
      generalize ntS L s (dcS s) = N at *
      obtain ⟨L1, t1, d1⟩ := N
      have n1b : L1.length + t1.length = L.length + s.length := n1.2
      have s1 : SR X1 L1 t1 o true := s1
      have hend : ¬ (jnS 11 L1 t1).2 = [] := hend
      refine joins_wp (d := d + 2) (v := 22) (a := 11) (Or.inr ⟨rfl, rfl⟩) t1 L1 X1 s1 (by omega) (fun X2 z2 s2 => ?_)
      have hj := jn_dc (a := 11) t1 L1
      have r2 := KZ_rdr (KZ_rdr r z1) z2
      generalize jnS 11 L1 t1 = J at *
      obtain ⟨L2, t2⟩ := J
      have s2 : SR X2 L2 t2 o true := s2
      have hj2 : L2.length + t2.length = L1.length + t1.length := hj.2
      cases t2 with
      | nil => exact absurd rfl hend
      | cons q rr =>
        have e58 : X2 199 58 = nI (rr.length + 1) := s2.2.2.1
        have hj2 : L2.length + (rr.length + 1) = L1.length + t1.length := hj2
        simp (disch := omega) [w276_76, x276_77, w276_80, w276_83, w276_84, rt276, rt276, aw_st, ai_cls, ai_len, ai_p, ai_sw, ai_m, ai_c, ai_at, ai_isI, ai_isJ, ai_isA, ai_ld, ai_1i, ai_2i, ai_2l, ai_cn, ai_j, ai_set, ai_set2, ai_nl, ai_rs, ai_sm, Value.category, hk0, hk1, lits, litb, litm, litm2, List.getElem?_cons_zero, List.getElem?_cons_succ, or_n0, bit_r, fi0, fi1, fi2, fi3, nI_toInt, nI_add, pk_mul, nI_leI, nI_ltI, nI_eq, pk_sub, ib_nI, nI_clamp, va_up_self, va_up_ne, va_up_up, va_up_comm, pk_us, pk_un, upd_up, updL_up, pk_uLs, pk_uLn, b01_1, b01_0, b01_1s, b01_0s, or_b, mm200, mu200, mm201, mu201, mm202, mu202, mm203, mu203, mm204, mu204, mm205, mu205, mm206, mu206, mm207, mu207, mm208, mu208, mm209, mu209, mm210, mu210, mm211, mu211, mm212, mu212, mm213, mu213, mm214, mu214, mm215, mu215, mm216, mu216, mm217, mu217, mm218, mu218, mm219, mu219, mm220, mu220, mm221, mu221, mm222, mu222, mm223, mu223, mm224, mu224, mm225, mu225, mm226, mu226, mm227, mu227, mm228, mu228, mm229, mu229, mm230, mu230, e58]
        rw [x276_85, if_pos (by decide)]
        refine Gbad r2 (fun X3 Y3 f3 b15 b16 => ?_)
        simp (disch := omega) [w276_88, w276_89, w276_90, x276_91, w276_94, w276_95, rt276, rt276, aw_st, ai_cls, ai_len, ai_p, ai_sw, ai_m, ai_c, ai_at, ai_isI, ai_isJ, ai_isA, ai_ld, ai_1i, ai_2i, ai_2l, ai_cn, ai_j, ai_set, ai_set2, ai_nl, ai_rs, ai_sm, Value.category, hk0, hk1, lits, litb, litm, litm2, List.getElem?_cons_zero, List.getElem?_cons_succ, or_n0, bit_r, fi0, fi1, fi2, fi3, nI_toInt, nI_add, pk_mul, nI_leI, nI_ltI, nI_eq, ib_nI, nI_clamp, va_up_self, va_up_ne, va_up_up, va_up_comm, pk_us, pk_un, upd_up, updL_up, pk_uLs, pk_uLn, b01_1, b01_0, b01_1s, b01_0s, or_b, mm200, mu200, mm201, mu201, mm202, mu202, mm203, mu203, mm204, mu204, mm205, mu205, mm206, mu206, mm207, mu207, mm208, mu208, mm209, mu209, mm210, mu210, mm211, mu211, mm212, mu212, mm213, mu213, mm214, mu214, mm215, mu215, mm216, mu216, mm217, mu217, mm218, mu218, mm219, mu219, mm220, mu220, mm221, mu221, mm222, mu222, mm223, mu223, mm224, mu224, mm225, mu225, mm226, mu226, mm227, mu227, mm228, mu228, mm229, mu229, mm230, mu230, b16]
        exact hQ1 1 i (by show (if cK c i = 41 then _ else _) = _; rw [if_neg (by omega)]) X3 Y3 ((z1.tr z2).kx.tr f3.kx) b15
    · have g101 : aw ET G (d + 4) 276 101 [some (.ref 199), some (.int (nI 1)), none] [] 231 sl (mem X Y) Q := by
        simp (disch := omega) [w276_101, x276_102, w276_105, w276_108, rt276, rt276, aw_st, ai_cls, ai_len, ai_p, ai_sw, ai_m, ai_c, ai_at, ai_isI, ai_isJ, ai_isA, ai_ld, ai_1i, ai_2i, ai_2l, ai_cn, ai_j, ai_set, ai_set2, ai_nl, ai_rs, ai_sm, Value.category, hk0, hk1, lits, litb, litm, litm2, List.getElem?_cons_zero, List.getElem?_cons_succ, or_n0, bit_r, fi0, fi1, fi2, fi3, nI_toInt, nI_add, pk_mul, nI_leI, nI_ltI, nI_eq, pk_sub, ib_nI, nI_clamp, va_up_self, va_up_ne, va_up_up, va_up_comm, pk_us, pk_un, upd_up, updL_up, pk_uLs, pk_uLn, b01_1, b01_0, b01_1s, b01_0s, or_b, mm200, mu200, mm201, mu201, mm202, mu202, mm203, mu203, mm204, mu204, mm205, mu205, mm206, mu206, mm207, mu207, mm208, mu208, mm209, mu209, mm210, mu210, mm211, mu211, mm212, mu212, mm213, mu213, mm214, mu214, mm215, mu215, mm216, mu216, mm217, mu217, mm218, mu218, mm219, mu219, mm220, mu220, mm221, mu221, mm222, mu222, mm223, mu223, mm224, mu224, mm225, mu225, mm226, mu226, mm227, mu227, mm228, mu228, mm229, mu229, mm230, mu230, e60]
        rw [x276_109, if_pos (by decide)]
        have hv3 : L.length + s.length + 1 ≤ 2 * o := hv2
        refine behind_wp (d := d) sr r ok hi (show L.length + s.length ≤ 42 by omega) k0 (fun e j q X' Y' f b15 b16 => ?_) (fun a' q X' Y' f g b15 => ?_)
        · simp (disch := omega) [w276_112, w276_115, w276_125, w276_126, x276_127, w276_130, w276_131, rt276, rt276, aw_st, ai_cls, ai_len, ai_p, ai_sw, ai_m, ai_c, ai_at, ai_isI, ai_isJ, ai_isA, ai_ld, ai_1i, ai_2i, ai_2l, ai_cn, ai_j, ai_set, ai_set2, ai_nl, ai_rs, ai_sm, Value.category, hk0, hk1, lits, litb, litm, litm2, List.getElem?_cons_zero, List.getElem?_cons_succ, or_n0, bit_r, fi0, fi1, fi2, fi3, nI_toInt, nI_add, pk_mul, nI_leI, nI_ltI, nI_eq, ib_nI, nI_clamp, va_up_self, va_up_ne, va_up_up, va_up_comm, pk_us, pk_un, upd_up, updL_up, pk_uLs, pk_uLn, b01_1, b01_0, b01_1s, b01_0s, or_b, mm200, mu200, mm201, mu201, mm202, mu202, mm203, mu203, mm204, mu204, mm205, mu205, mm206, mu206, mm207, mu207, mm208, mu208, mm209, mu209, mm210, mu210, mm211, mu211, mm212, mu212, mm213, mu213, mm214, mu214, mm215, mu215, mm216, mu216, mm217, mu217, mm218, mu218, mm219, mu219, mm220, mu220, mm221, mu221, mm222, mu222, mm223, mu223, mm224, mu224, mm225, mu225, mm226, mu226, mm227, mu227, mm228, mu228, mm229, mu229, mm230, mu230, b16]
          exact hQ1 e j q X' Y' f b15
        · have := hQ2 a' q (inv_bh hv q) X' Y' f g b15
          simp (disch := omega) [w276_112, rt276, rt276, aw_st, ai_cls, ai_len, ai_p, ai_sw, ai_m, ai_c, ai_at, ai_isI, ai_isJ, ai_isA, ai_ld, ai_1i, ai_2i, ai_2l, ai_cn, ai_j, ai_set, ai_set2, ai_nl, ai_rs, ai_sm, Value.category, hk0, hk1, lits, litb, litm, litm2, List.getElem?_cons_zero, List.getElem?_cons_succ, or_n0, bit_r, fi0, fi1, fi2, fi3, nI_toInt, nI_add, pk_mul, nI_leI, nI_ltI, nI_eq, pk_sub, ib_nI, nI_clamp, va_up_self, va_up_ne, va_up_up, va_up_comm, pk_us, pk_un, upd_up, updL_up, pk_uLs, pk_uLn, b01_1, b01_0, b01_1s, b01_0s, or_b, mm200, mu200, mm201, mu201, mm202, mu202, mm203, mu203, mm204, mu204, mm205, mu205, mm206, mu206, mm207, mu207, mm208, mu208, mm209, mu209, mm210, mu210, mm211, mu211, mm212, mu212, mm213, mu213, mm214, mu214, mm215, mu215, mm216, mu216, mm217, mu217, mm218, mu218, mm219, mu219, mm220, mu220, mm221, mu221, mm222, mu222, mm223, mu223, mm224, mu224, mm225, mu225, mm226, mu226, mm227, mu227, mm228, mu228, mm229, mu229, mm230, mu230]
          exact this
      have n0 : ¬ rkN (cK c i) = 0 := fun q => k0 (rkN_0.mp q)
      rw [w276_48]
      simp (disch := omega) [w276_49, w276_52, x276_53, w276_56, w276_59, x276_60, w276_63, rt276, rt276, aw_st, ai_cls, ai_len, ai_p, ai_sw, ai_m, ai_c, ai_at, ai_isI, ai_isJ, ai_isA, ai_ld, ai_1i, ai_2i, ai_2l, ai_cn, ai_j, ai_set, ai_set2, ai_nl, ai_rs, ai_sm, Value.category, hk0, hk1, lits, litb, litm, litm2, List.getElem?_cons_zero, List.getElem?_cons_succ, or_n0, bit_r, fi0, fi1, fi2, fi3, nI_toInt, nI_add, pk_mul, nI_leI, nI_ltI, nI_eq, pk_sub, ib_nI, nI_clamp, va_up_self, va_up_ne, va_up_up, va_up_comm, pk_us, pk_un, upd_up, updL_up, pk_uLs, pk_uLn, b01_1, b01_0, b01_1s, b01_0s, or_b, mm200, mu200, mm201, mu201, mm202, mu202, mm203, mu203, mm204, mu204, mm205, mu205, mm206, mu206, mm207, mu207, mm208, mu208, mm209, mu209, mm210, mu210, mm211, mu211, mm212, mu212, mm213, mu213, mm214, mu214, mm215, mu215, mm216, mu216, mm217, mu217, mm218, mu218, mm219, mu219, mm220, mu220, mm221, mu221, mm222, mu222, mm223, mu223, mm224, mu224, mm225, mu225, mm226, mu226, mm227, mu227, mm228, mu228, mm229, mu229, mm230, mu230, e60, h11, n0]
      exact g101
theorem st_end {i o dp : Nat} {L : List SC} {s : List Nat} (h0 : cK c i = 0) (h : (jnS 11 (ntS L s dp).1 (ntS L s dp).2.1).2 = []) : stS c nm P S (true, i, o, L, s, dp) = .inr (true, i, o, L, s, dp) := by
  have y21 : cY c i = 21 := cY_no (by omega)
  show bhS c i o L s dp = _
  unfold bhS
  rw [if_neg (by omega), if_neg (by omega), h]
  show (if cK c i = 0 then _ else _) = _
  rw [if_pos h0]
theorem rs_run (z : (Nat × Nat) ⊕ AS) : ∀ (m : Nat) (a : AS) (X : mX) (Y : mY), itS c nm P S m a = z → (∀ k, k < 21 → Y 205 k = kl k) → RNM X Y nm P S → OKr c X → SRA c X Y a → invS a → (∀ e j, z = .inl (e, j) → ∀ X' Y', KX X Y X' Y' → X' 199 15 = nI e → Q [.int (mi1 - nI (cP c j))] 231 sl (mem X' Y')) → (∀ a', z = .inr a' → invS a' → ∀ X' Y', KX X Y X' Y' → SRA c X' Y' a' → X' 199 15 = X 199 15 → aw ET G (d + 4) 276 48 [some (.ref 199), some (.int (nI 1)), none] [] 231 sl (mem X' Y') Q) → aw ET G (d + 4) 276 48 [some (.ref 199), some (.int (nI 1)), none] [] 231 sl (mem X Y) Q := by
  intro m
  induction m with
  | zero =>
    intro a X Y hz hR hN ok ha hv hQ1 hQ2
    exact hQ2 a hz.symm hv X Y ⟨fun _ _ _ _ => rfl, fun _ _ => rfl, fun _ _ _ _ _ => rfl⟩ ha rfl
  | succ m ih =>
    intro a X Y hz hR hN ok ha hv hQ1 hQ2
    by_cases hend : a.1 = true ∧ cK c a.2.1 = 0 ∧ (jnS 11 (ntS a.2.2.2.1 a.2.2.2.2.1 (dcS a.2.2.2.2.1)).1 (ntS a.2.2.2.1 a.2.2.2.2.1 (dcS a.2.2.2.2.1)).2.1).2 = []
    · have e : stS c nm P S a = .inr a := by
        obtain ⟨w, i, o, L, s, dp⟩ := a
        obtain ⟨h1, h2, h3⟩ := hend
        have h1 : w = true := h1
        have hdp : dp = dcS s := ha.2.2.2
        subst h1 hdp
        exact st_end h2 h3
      unfold itS at hz
      rw [e] at hz
      exact ih a X Y hz hR hN ok ha hv hQ1 hQ2
    · unfold itS at hz
      refine rs_step hR hN ok ha hv hend (fun e j q X' Y' f b15 => ?_) (fun a' q hv' X' Y' f g b15 => ?_)
      · rw [q] at hz
        exact hQ1 e j hz.symm X' Y' f b15
      · rw [q] at hz
        exact ih a' X' Y' hz (fun k hk => by rw [f.2.1 205 (by omega)]; exact hR k hk) (hN.kx f) (SRA_KX f ok) g hv' (fun e j q2 X2 Y2 f2 b => hQ1 e j q2 X2 Y2 (f.tr f2) b) (fun a2 q2 hv2 X2 Y2 f2 g2 b => hQ2 a2 q2 hv2 X2 Y2 (f.tr f2) g2 (b.trans b15))
end RSE
