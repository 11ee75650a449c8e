/-! A SENTENCE's text: the class, in all -/
section SNG
variable {G : ai_G} {d sl : Nat} {P S : Nat} {nm : Nat → List Nat} {t : Nat → Nat} {n : Nat}
theorem ones_all {c : TC} : ∀ (r : Nat), r ≤ 8 → ∀ d, SNC G sl (d + 3 * r + 6) c nm P S 158 [none, none] (9 - r) (oneR c nm P S (9 - r)) (oneE c nm P S (9 - r)) := by
  intro r
  induction r with
  | zero =>
    intro _ d X Y i o L Q ht h ok hi hs ho hl hQ1 hQ2
    exact one_bad (d := d) (D := 9) h ok hi hs ho (by omega) (Or.inr (Or.inr (by omega))) hQ1
  | succ r ih =>
    intro hr d
    have e : 9 - r = 9 - (r + 1) + 1 := by omega
    have h1 := ih (by omega) d
    have h5 := ih (by omega) (d + 2)
    rw [e] at h1 h5
    have hc := con_wp (d := d + 3 * r + 3) (all_wp (d := d + 3 * r + 3) h1)
    have h5' : SNC G sl (d + 3 * r + 3 + 5) c nm P S 158 [none, none] (9 - (r + 1) + 1) (oneR c nm P S (9 - (r + 1) + 1)) (oneE c nm P S (9 - (r + 1) + 1)) := by
      rw [show d + 3 * r + 3 + 5 = d + 2 + 3 * r + 6 by omega]
      exact h5
    rw [show d + 3 * (r + 1) + 6 = d + 3 * r + 3 + 6 by omega]
    exact one_good (d := d + 3 * r + 3) (D := 9 - (r + 1)) (by omega) h1 hc h5'
theorem con_1 {c : TC} : SNC G sl (d + 32) c nm P S 156 [none] 1 (CON' c nm P S 1) (conE c nm P S 1) := con_wp (d := d + 27) (all_wp (d := d + 27) (ones_all 8 (by omega) d))
/-- the SENTENCE that is kept -/
def SK (X : mX) (L : List SC) (o : Nat) : Prop := X 56 5 = nI o ∧ X 56 4 = nI L.length ∧ ∀ q, q < L.length → X 57 q = nI (L.getD q (0, 0, 0)).1 ∧ X 58 q = nI (L.getD q (0, 0, 0)).2.1 ∧ X 59 q = nI (L.getD q (0, 0, 0)).2.2
theorem SK_sc {X : mX} {L : List SC} {o : Nat} (h : SS X L o) (hl : L.length ≤ 40) : SK (scX X 56 14) L o := by
  obtain ⟨h1, h2, h3⟩ := h
  refine ⟨by simp [scX, h1], by simp [scX, h2], fun q hq => ?_⟩
  obtain ⟨g1, g2, g3⟩ := h3 q hq
  have hc : ∀ f g : Nat → Int32, va_cpy f g 0 0 40 q = f q := fun f g => by rw [pk_cpy_in (by omega) (by omega)]; congr 1; omega
  refine ⟨?_, ?_, ?_⟩
  · show va_cpy (X 15) (X 57) 0 0 40 q = _; rw [hc, g1]
  · show va_cpy (X 16) (X 58) 0 0 40 q = _; rw [hc, g2]
  · show va_cpy (X 17) (X 59) 0 0 40 q = _; rw [hc, g3]
theorem scX_o {X : mX} {k : Nat} (h : ¬ (56 ≤ k ∧ k ≤ 59)) : scX X 56 14 k = X k := by
  unfold scX
  rw [if_neg (by omega), if_neg (by omega)]
/-- what a SENTENCE's text leaves as it was -/
def FSN (X : mX) (Y : mY) (X' : mX) (Y' : mY) : Prop := (∀ k, ¬ k = 0 → ¬ k = 2 → ¬ (14 ≤ k ∧ k ≤ 17) → ¬ (56 ≤ k ∧ k ≤ 59) → X' k = X k) ∧ (∀ j, ¬ j = 15 → ¬ j = 16 → X' 0 j = X 0 j) ∧ X' 0 15 = nI 0 ∧ (∀ k, ¬ k = 2 → Y' k = Y k)
def sentOk (c : TC) (nm : Nat → List Nat) (P S i' o' : Nat) (L' : List SC) : Prop := cK c i' = 0 ∧ GD P S 0 [] o' L' ∧ ∃ k a b L1, L' = L1 ++ rq k ++ aL a ++ oL b ∧ goS c nm P S (false, 0, 0, [], [], 1) (.inr (true, i', o', L1, rp k ++ aS a (oS b []), 1 + k))
set_option maxHeartbeats 16000000 in
theorem tsent_wp {X : mX} {Y : mY} {Q : List Value → Nat → Nat → ai_M → Prop} (hG : G.1 = false) (hT : TB8 (X 1) t) (h15 : X 0 15 = nI n) (hn : n ≤ 940) (ht : TN X Y nm P S) (hQ1 : ∀ e j, goS (t, n, 200) nm P S (false, 0, 0, [], [], 1) (.inl (e, j)) → ∀ X' Y', FSN X Y X' Y' → X' 0 16 = nI e → (∀ k, 56 ≤ k → k ≤ 59 → X' k = X k) → Q [.int (mi1 - nI (cP (t, n, 200) j))] 231 sl (mem X' Y')) (hQ2 : ∀ i' o' L', sentOk (t, n, 200) nm P S i' o' L' → i' ≤ n → ∀ X' Y', FSN X Y X' Y' → X' 0 16 = nI 0 → SK X' L' o' → Q [.int (nI o')] 231 sl (mem X' Y')) : aw ET G (d + 33) 155 0 [some (.ref 0), none] [] 231 sl (mem X Y) Q := by
  simp (disch := omega) [w155_0, w155_1, rt155, rt155, aw_st, ai_cls, ai_len, ai_p, ai_sw, ai_m, ai_c, ai_at, ai_isI, ai_isJ, ai_isA, ai_ld, ai_1i, ai_2i, ai_2l, ai_cn, ai_j, ai_set, ai_set2, ai_nl, ai_rs, ai_sm, Value.category, hk0, hk1, lits, litb, litm, litm2, List.getElem?_cons_zero, List.getElem?_cons_succ, or_n0, bit_r, fi0, fi1, fi2, fi3, nI_toInt, nI_add, pk_mul, nI_leI, nI_ltI, nI_eq, pk_sub, ib_nI, nI_clamp, va_up_self, va_up_ne, va_up_up, va_up_comm, pk_us, pk_un, upd_up, updL_up, pk_uLs, pk_uLn, b01_1, b01_0, b01_1s, b01_0s, or_b]
  rw [x155_4_0, if_pos (by decide)]
  refine openTape_wp (d := d + 28) hT h15 hn (by omega) (fun f1 g1 r1 => ?_)
  simp (disch := omega) [w155_7, x155_8_0, x155_11_55, x155_11_5, x155_14_14, w155_17, x155_18_0, x155_21_55, x155_21_5, w155_24, x155_25_0, w155_28, x155_29_0, x155_32_55, x155_32_5, w155_35, rt155, rt155, aw_st, ai_cls, ai_len, ai_p, ai_sw, ai_m, ai_c, ai_at, ai_isI, ai_isJ, ai_isA, ai_ld, ai_1i, ai_2i, ai_2l, ai_cn, ai_j, ai_set, ai_set2, ai_nl, ai_rs, ai_sm, Value.category, hk0, hk1, lits, litb, litm, litm2, List.getElem?_cons_zero, List.getElem?_cons_succ, or_n0, bit_r, fi0, fi1, fi2, fi3, nI_toInt, nI_add, pk_mul, nI_leI, nI_ltI, nI_eq, pk_sub, ib_nI, nI_clamp, va_up_self, va_up_ne, va_up_up, va_up_comm, pk_us, pk_un, upd_up, updL_up, pk_uLs, pk_uLn, b01_1, b01_0, b01_1s, b01_0s, or_b, sclear_14]
  have hZ0 : ∀ k, ¬ k = 0 → ¬ k = 2 → ¬ k = 14 → va_up (va_up (va_up X 0 (upd (X 0) 15 (nI 0))) 2 f1) 14 (upd (upd (X 14) 4 (nI 0)) 5 (nI 0)) k = X k := fun k a b c => by rw [va_up_ne _ _ c, va_up_ne _ _ b, va_up_ne _ _ a]
  have hZ2 : va_up (va_up (va_up X 0 (upd (X 0) 15 (nI 0))) 2 f1) 14 (upd (upd (X 14) 4 (nI 0)) 5 (nI 0)) 2 = f1 := by simp [va_up]
  have hZz : va_up (va_up (va_up X 0 (upd (X 0) 15 (nI 0))) 2 f1) 14 (upd (upd (X 14) 4 (nI 0)) 5 (nI 0)) 0 = upd (X 0) 15 (nI 0) := by simp [va_up]
  have hZ3 : va_up (va_up (va_up X 0 (upd (X 0) 15 (nI 0))) 2 f1) 14 (upd (upd (X 14) 4 (nI 0)) 5 (nI 0)) 14 = upd (upd (X 14) 4 (nI 0)) 5 (nI 0) := by simp [va_up]
  have hW0 : ∀ k, ¬ k = 2 → va_up Y 2 g1 k = Y k := fun k a => va_up_ne _ _ a
  have hW2 : va_up Y 2 g1 2 = g1 := va_up_self _ _ _
  generalize va_up (va_up (va_up X 0 (upd (X 0) 15 (nI 0))) 2 f1) 14 (upd (upd (X 14) 4 (nI 0)) 5 (nI 0)) = Z at *
  generalize va_up Y 2 g1 = W at *
  have hTN : TN Z W nm P S := by
    obtain ⟨a1, a2, a3, a4, a5, a6⟩ := ht
    exact ⟨a1, a2, by rw [hZ0 47 (by omega) (by omega) (by omega)]; exact a3, by rw [hZ0 47 (by omega) (by omega) (by omega)]; exact a4, by rw [hW0 48 (by omega)]; exact a5, by rw [hW0 51 (by omega)]; exact a6⟩
  have hr : RDC (t, n, 200) 0 (Z 2) (W 2) (nI 0) := by rw [hZ2, hW2]; exact r1
  have hOK : OKc (t, n, 200) Z := ⟨by rw [hZ0 1 (by omega) (by omega) (by omega)]; exact hT, hn, by show 200 ≤ 940; omega⟩
  have hSS : SS Z [] 0 := ⟨by rw [hZ3]; simp [upd], by rw [hZ3]; simp [upd], fun q hq => absurd hq (by simp)⟩
  have hF : ∀ X' Y', FN Z W X' Y' → ∀ v, FSN X Y (va_up X' 0 (upd (X' 0) 16 v)) Y' := by
    intro X' Y' f v
    have h0 : X' 0 = upd (X 0) 15 (nI 0) := by rw [f.1 0 (by omega) (by omega), hZz]
    refine ⟨fun k a b c e => ?_, fun j a b => ?_, ?_, fun k a => ?_⟩
    · rw [va_up_ne _ _ a, f.1 k b c, hZ0 k a b (by omega)]
    · rw [va_up_self, h0, pk_un b, pk_un a]
    · rw [va_up_self, h0]; simp [upd]
    · rw [f.2.2 k a, hW0 k a]
  have hbad : ∀ e j X' Y', goS (t, n, 200) nm P S (false, 0, 0, [], [], 1) (.inl (e, j)) → FN Z W X' Y' → RDC (t, n, 200) j (X' 2) (Y' 2) (nI e) → ∀ v1, aw ET G (d + 33) 155 57 [some (.ref 0), v1] [] 231 sl (mem X' Y') Q := by
    intro e j X' Y' hg f r v1
    have h9 : X' 2 9 = nI e := r.2.2.2.2.2.2.2.1
    have h5 : X' 2 5 = nI (cP (t, n, 200) j) := r.2.2.2.2.2.1
    simp (disch := omega) [w155_57, w155_58, w155_59, w155_60, x155_61_0, x155_64_2, x155_67, w155_70, w155_71, w155_74, w155_75, x155_76_0, x155_79_2, w155_82, w155_83, rt155, rt155, aw_st, ai_cls, ai_len, ai_p, ai_sw, ai_m, ai_c, ai_at, ai_isI, ai_isJ, ai_isA, ai_ld, ai_1i, ai_2i, ai_2l, ai_cn, ai_j, ai_set, ai_set2, ai_nl, ai_rs, ai_sm, Value.category, hk0, hk1, lits, litb, litm, litm2, List.getElem?_cons_zero, List.getElem?_cons_succ, or_n0, bit_r, fi0, fi1, fi2, fi3, nI_toInt, nI_add, pk_mul, nI_leI, nI_ltI, nI_eq, ib_nI, nI_clamp, va_up_self, va_up_ne, va_up_up, va_up_comm, pk_us, pk_un, upd_up, updL_up, pk_uLs, pk_uLn, b01_1, b01_0, b01_1s, b01_0s, or_b, h9, h5]
    refine hQ1 e j hg _ Y' (hF X' Y' f (nI e)) (by rw [va_up_self, pk_us]) (fun k a b => ?_)
    rw [va_up_ne _ _ (by omega), f.1 k (by omega) (by omega), hZ0 k (by omega) (by omega) (by omega)]
  rw [x155_36_14, if_pos (by decide)]
  refine con_1 (d := d) Z W 0 0 [] _ hTN hr hOK (Nat.zero_le _) hSS (by omega) (by simp) (fun e j he X' Y' f r => ?_) (fun i' o' L' hR hg hi' X' Y' f r s => ?_)
  · simp (disch := omega) [w155_39, rt155, rt155, aw_st, ai_cls, ai_len, ai_p, ai_sw, ai_m, ai_c, ai_at, ai_isI, ai_isJ, ai_isA, ai_ld, ai_1i, ai_2i, ai_2l, ai_cn, ai_j, ai_set, ai_set2, ai_nl, ai_rs, ai_sm, Value.category, hk0, hk1, lits, litb, litm, litm2, List.getElem?_cons_zero, List.getElem?_cons_succ, or_n0, bit_r, fi0, fi1, fi2, fi3, nI_toInt, nI_add, pk_mul, nI_leI, nI_ltI, nI_eq, pk_sub, ib_nI, nI_clamp, va_up_self, va_up_ne, va_up_up, va_up_comm, pk_us, pk_un, upd_up, updL_up, pk_uLs, pk_uLn, b01_1, b01_0, b01_1s, b01_0s, or_b]
    exact hbad e j X' Y' (he [] (Or.inl rfl)) f r none
  · simp (disch := omega) [w155_39, w155_42, x155_43_0, w155_46, rt155, rt155, aw_st, ai_cls, ai_len, ai_p, ai_sw, ai_m, ai_c, ai_at, ai_isI, ai_isJ, ai_isA, ai_ld, ai_1i, ai_2i, ai_2l, ai_cn, ai_j, ai_set, ai_set2, ai_nl, ai_rs, ai_sm, Value.category, hk0, hk1, lits, litb, litm, litm2, List.getElem?_cons_zero, List.getElem?_cons_succ, or_n0, bit_r, fi0, fi1, fi2, fi3, nI_toInt, nI_add, pk_mul, nI_leI, nI_ltI, nI_eq, pk_sub, ib_nI, nI_clamp, va_up_self, va_up_ne, va_up_up, va_up_comm, pk_us, pk_un, upd_up, updL_up, pk_uLs, pk_uLn, b01_1, b01_0, b01_1s, b01_0s, or_b]
    rw [x155_47_2, if_pos (by decide)]
    obtain ⟨k, a, b, L1, eL, gL⟩ := hR.1 [] (Or.inl rfl)
    refine Htake (d := d + 29) (v := 0) r (OKc_fn hOK f) hi' (by omega) (fun hn0 X2 Y2 f2 r2 => ?_) (fun hn0 X2 Y2 f2 r2 => ?_)
    · simp (disch := omega) [w155_50, rt155, rt155, aw_st, ai_cls, ai_len, ai_p, ai_sw, ai_m, ai_c, ai_at, ai_isI, ai_isJ, ai_isA, ai_ld, ai_1i, ai_2i, ai_2l, ai_cn, ai_j, ai_set, ai_set2, ai_nl, ai_rs, ai_sm, Value.category, hk0, hk1, lits, litb, litm, litm2, List.getElem?_cons_zero, List.getElem?_cons_succ, or_n0, bit_r, fi0, fi1, fi2, fi3, nI_toInt, nI_add, pk_mul, nI_leI, nI_ltI, nI_eq, pk_sub, ib_nI, nI_clamp, va_up_self, va_up_ne, va_up_up, va_up_comm, pk_us, pk_un, upd_up, updL_up, pk_uLs, pk_uLn, b01_1, b01_0, b01_1s, b01_0s, or_b]
      refine hbad 1 i' X2 Y2 (gL.tr (goS_e ?_)) (f.tr f2.fn) r2 none
      show bhS (t, n, 200) i' o' L1 _ _ = _
      unfold bhS
      rw [if_neg hR.2.1, if_neg hR.2.2, nt_at (Or.inl rfl), jn_a11 (Or.inl rfl)]
      show (if cK (t, n, 200) i' = 0 then _ else (.inl (1, i') : (Nat × Nat) ⊕ AS)) = _
      rw [if_neg hn0]
    · have h9 : X2 2 9 = nI 0 := r2.2.2.2.2.2.2.2.1
      have s2 := SS_h s f2
      have hlen := GD_len hg
      have ho' := hg.2.1
      have hl40 : L'.length ≤ 40 := by
        have : ([] : List SC).length = 0 := rfl
        omega
      have s3 : SS (va_up X2 0 (upd (X2 0) 16 (nI 0))) L' o' := by
        unfold SS at s2 ⊢
        rw [va_up_ne _ _ (by omega), va_up_ne _ _ (by omega), va_up_ne _ _ (by omega), va_up_ne _ _ (by omega)]
        exact s2
      have hsc := fun (Q : List Value → Nat → Nat → ai_M → Prop) => scopy_56_14 (G := G) (d := d + 31) (sl := sl) (Q := Q) (X := va_up X2 0 (upd (X2 0) 16 (nI 0))) (Y := Y2) hG
      have e56 : scX (va_up X2 0 (upd (X2 0) 16 (nI 0))) 56 14 56 5 = nI o' := (SK_sc s3 hl40).1
      simp (disch := omega) [w155_50, w155_53, w155_54, w155_58, w155_59, w155_60, x155_61_0, x155_64_2, x155_67, w155_70, w155_71, w155_84, x155_85_0, x155_88_55, x155_88_5, w155_91, x155_92_0, x155_95_55, x155_95_5, x155_98_56, x155_98_14, w155_101, x155_102_0, x155_105_55, x155_105_5, x155_108_56, x155_108_14, w155_111, rt155, rt155, aw_st, ai_cls, ai_len, ai_p, ai_sw, ai_m, ai_c, ai_at, ai_isI, ai_isJ, ai_isA, ai_ld, ai_1i, ai_2i, ai_2l, ai_cn, ai_j, ai_set, ai_set2, ai_nl, ai_rs, ai_sm, Value.category, hk0, hk1, lits, litb, litm, litm2, List.getElem?_cons_zero, List.getElem?_cons_succ, or_n0, bit_r, fi0, fi1, fi2, fi3, nI_toInt, nI_add, pk_mul, nI_leI, nI_ltI, nI_eq, ib_nI, nI_clamp, va_up_self, va_up_ne, va_up_up, va_up_comm, pk_us, pk_un, upd_up, updL_up, pk_uLs, pk_uLn, b01_1, b01_0, b01_1s, b01_0s, or_b, h9, hsc, e56]
      have fz := hF X2 Y2 (f.tr f2.fn) (nI 0)
      refine hQ2 i' o' L' ⟨hn0, hg, k, a, b, L1, eL, gL⟩ hi' _ Y2 ⟨fun k a b c e => by rw [scX_o e]; exact fz.1 k a b c e, fun j a b => by rw [scX_o (by omega)]; exact fz.2.1 j a b, by rw [scX_o (by omega)]; exact fz.2.2.1, fz.2.2.2⟩ (by rw [scX_o (by omega), va_up_self, pk_us]) (SK_sc s3 hl40)
end SNG
