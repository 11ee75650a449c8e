/-! CLASS AND REFERENCE: IMAGE, RESTORE -/
section STK
variable {G : ai_G} {sl n P S B T B' T' : Nat} {X X' : mX} {Y Y' : mY} {l l' k k' : Nat → Nat → Int32} {s0 s' : Nat → Int32} {a b o q s t : Nat}
theorem plX_out {j : Nat} (h1 : j < a ∨ a + 7 < j) (h2 : j < o ∨ o + 8 < j) (h3 : j < s ∨ s + 3 < j) : plX X a b o q s t j = X j := by
  unfold plX scX
  rw [if_neg (by omega), if_neg (by omega), plv_out (by omega)]
  unfold ccX
  rw [if_neg (by omega), if_neg (by omega)]
theorem plX_cv (h1 : a + 7 < o ∨ o + 8 < a) (h2 : a + 7 < s ∨ s + 3 < a) : KE (cv X b) (cv (plX X a b o q s t) a) := by
  have e : ∀ k, a ≤ k → k ≤ a + 7 → plX X a b o q s t k = ccX X a b k := fun k x y => by
    unfold plX scX
    rw [if_neg (by omega), if_neg (by omega), plv_out (by omega)]
  refine ⟨fun j p x y z w => ?_, fun j x y => ?_⟩
  · unfold cv
    rw [if_pos (by omega), if_pos (by omega), e _ (by omega) (by omega)]
    unfold ccX
    rw [if_neg (by omega), if_pos (by omega), cpy_in _ _ _ w, show b + (a + 1 + j - a) = b + 1 + j by omega]
  · unfold cv
    rw [if_neg (by omega), if_neg (by omega), e _ (by omega) (by omega)]
    unfold ccX
    rw [if_pos rfl, if_pos (by omega)]
theorem plX_lv (h1 : a + 7 < o ∨ o + 8 < a) (h2 : o + 8 < s ∨ s + 3 < o) (h3 : a + 7 < q ∨ q + 8 < a) : PEQ (lv (plX X a b o q s t) o) (lv X q) := by
  have e : lv (plX X a b o q s t) o = lv (plv (ccX X a b) o (cpyL (lv (ccX X a b) o) (lv (ccX X a b) q))) o := lv_eq (fun k x y => by
    unfold plX scX
    rw [if_neg (by omega), if_neg (by omega)])
  have e2 : lv (ccX X a b) q = lv X q := lv_eq (fun k x y => by
    unfold ccX
    rw [if_neg (by omega), if_neg (by omega)])
  rw [e, e2]
  exact (PEQ_leq (LEQ_plv _)).tr (PEQ_cpy _ _)
theorem plX_s (h1 : a + 7 < t ∨ t + 3 < a) (h2 : o + 8 < t ∨ t + 3 < o) {j : Nat} (hj : j = 4 ∨ j = 5) : plX X a b o q s t s j = X t j := by
  have e : ∀ k, t ≤ k → k ≤ t + 3 → plv (ccX X a b) o (cpyL (lv (ccX X a b) o) (lv (ccX X a b) q)) k = X k := fun k x y => by
    rw [plv_out (by omega)]
    unfold ccX
    rw [if_neg (by omega), if_neg (by omega)]
  unfold plX scX
  rw [if_pos rfl, if_pos hj, e t (by omega) (by omega)]
theorem plX_r (h1 : a + 7 < t ∨ t + 3 < a) (h2 : o + 8 < t ∨ t + 3 < o) {i j : Nat} (hi : 1 ≤ i) (hi2 : i ≤ 3) (hj : j < 40) : plX X a b o q s t (s + i) j = X (t + i) j := by
  have e : ∀ k, t ≤ k → k ≤ t + 3 → plv (ccX X a b) o (cpyL (lv (ccX X a b) o) (lv (ccX X a b) q)) k = X k := fun k x y => by
    rw [plv_out (by omega)]
    unfold ccX
    rw [if_neg (by omega), if_neg (by omega)]
  unfold plX scX
  rw [if_neg (by omega), if_pos (by omega), cpy_in _ _ _ hj, show t + (s + i - s) = t + i by omega, e (t + i) (by omega) (by omega)]
theorem tiX_eq {k : Nat} (hk : k < 2) : tiX X k = va_up (plX X (154 + 23 * k) 47 (167 + 23 * k) 61 (162 + 23 * k) 56) 29 (upd (X 29) k (nI 1)) := by
  rcases (show k = 0 ∨ k = 1 by omega) with rfl | rfl
  · unfold tiX
    rw [if_pos rfl, plX_out (j := 29) (by omega) (by omega) (by omega)]
  · unfold tiX
    rw [if_neg (by omega), plX_out (j := 29) (by omega) (by omega) (by omega)]
theorem tiY_eq {k : Nat} (hk : k < 2) : tiY Y k = ccY Y (154 + 23 * k) 47 := by
  rcases (show k = 0 ∨ k = 1 by omega) with rfl | rfl <;> rfl
theorem trX_eq {k : Nat} (hk : k < 2) : trX X k = va_up (plX X 47 (154 + 23 * k) 61 (167 + 23 * k) 56 (162 + 23 * k)) 79 (upd (X 79) 2 (nI 0)) := by
  rcases (show k = 0 ∨ k = 1 by omega) with rfl | rfl
  · unfold trX
    rw [if_pos rfl, plX_out (j := 79) (by omega) (by omega) (by omega)]
  · unfold trX
    rw [if_neg (by omega), plX_out (j := 79) (by omega) (by omega) (by omega)]
theorem trY_eq {k : Nat} (hk : k < 2) : trY Y k = ccY Y 47 (154 + 23 * k) := by
  rcases (show k = 0 ∨ k = 1 by omega) with rfl | rfl <;> rfl
/-- an image, by its number -/
def WIk (B T k : Nat) (X : mX) (Y : mY) : Prop := WIm B T (X 29 k) (X 229 k) (im0 X k) (im1 Y k) (cv X (154 + 23 * k)) (lv X (167 + 23 * k)) (Y (155 + 23 * k)) (Y (158 + 23 * k)) (X (162 + 23 * k)) (X (163 + 23 * k)) (X (164 + 23 * k)) (X (165 + 23 * k))
theorem WW.img (h : WW n X Y) : ∀ k, k < 2 → WIk (BN n) (TN' n) k X Y := by
  intro k hk
  rcases (show k = 0 ∨ k = 1 by omega) with rfl | rfl
  · exact h.2.2.2.2.2.2.2.2.2.1
  · exact h.2.2.2.2.2.2.2.2.2.2.1
theorem WIk_cg {k : Nat} (h : WIk B T k X Y) (e0 : X' 29 k = X 29 k) (e1 : X' 229 k = X 229 k) (e2 : ∀ j, j < 438 → im0 X' k j = im0 X k j) (e3 : ∀ j, j < 16 → im1 Y' k j = im1 Y k j) (e4 : ∀ j, 154 + 23 * k ≤ j → j ≤ 175 + 23 * k → X' j = X j) (e5 : Y' (155 + 23 * k) = Y (155 + 23 * k)) (e6 : Y' (158 + 23 * k) = Y (158 + 23 * k)) : WIk B T k X' Y' := by
  unfold WIk at h ⊢
  obtain ⟨g1, g2⟩ := h
  rw [e0, e1, e5, e6, e4 (162 + 23 * k) (by omega) (by omega), e4 (163 + 23 * k) (by omega) (by omega), e4 (164 + 23 * k) (by omega) (by omega), e4 (165 + 23 * k) (by omega) (by omega), cv_eq (X := X) (X' := X') (c := 154 + 23 * k) (fun j x y => e4 j (by omega) (by omega)), lv_eq (X := X) (X' := X') (o := 167 + 23 * k) (fun j x y => e4 j (by omega) (by omega))]
  refine ⟨g1, g2.imp id (fun g => ?_)⟩
  exact PLr_cg g e2 e3 (KE.rfl' _) (PEQ.rfl' _) (fun _ _ => rfl) (fun _ _ => rfl) rfl rfl (fun _ _ => ⟨rfl, rfl, rfl⟩)
theorem WIk_mono {k : Nat} (h : WIk B T k X Y) (hB : B ≤ B') (hT : T ≤ T') : WIk B' T' k X Y := WIm_mono h hB hT
theorem s_image {x : Int32} (hG : G.1 = false) (h : WW n X Y) : PO G sl n 170 286 [some (.ref 0), some (.int x)] [some (.ref 199), some (.int x), none] X Y := by
  unfold PO
  rw [timage_eq (d := 57) hG]
  by_cases q : pI 2 x = true
  · rw [if_pos q]
    obtain ⟨k, hk, rfl⟩ := (pI_nat (by omega)).mp q
    rw [iN_nI (by omega)]
    refine ⟨rfl, rfl, _, rfl, ⟨_, _, rfl⟩, ?_⟩
    rw [rimage_eq (d := 59) hG, if_pos q, iN_nI (by omega), tiX_eq hk, tiY_eq hk]
    refine ⟨rfl, rfl, rfl, _, _, rfl, ?_⟩
    have hB : BN n ≤ BN (n + 1) := by unfold BN; omega
    have hT : TN' n ≤ TN' (n + 1) := by unfold TN'; omega
    have kcv := plX_cv (X := X) (a := 154 + 23 * k) (b := 47) (o := 167 + 23 * k) (q := 61) (s := 162 + 23 * k) (t := 56) (by omega) (by omega)
    have klv := plX_lv (X := X) (a := 154 + 23 * k) (b := 47) (o := 167 + 23 * k) (q := 61) (s := 162 + 23 * k) (t := 56) (by omega) (by omega) (by omega)
    have ks : ∀ j, j = 4 ∨ j = 5 → plX X (154 + 23 * k) 47 (167 + 23 * k) 61 (162 + 23 * k) 56 (162 + 23 * k) j = X 56 j := fun j hj => plX_s (by omega) (by omega) hj
    have kr : ∀ i j, 1 ≤ i → i ≤ 3 → j < 40 → plX X (154 + 23 * k) 47 (167 + 23 * k) 61 (162 + 23 * k) 56 (162 + 23 * k + i) j = X (56 + i) j := fun i j a b c => plX_r (by omega) (by omega) a b c
    have ko : ∀ j, (j < 154 + 23 * k ∨ 175 + 23 * k < j) → plX X (154 + 23 * k) 47 (167 + 23 * k) 61 (162 + 23 * k) 56 j = X j := fun j a => plX_out (by omega) (by omega) (by omega)
    generalize plX X (154 + 23 * k) 47 (167 + 23 * k) 61 (162 + 23 * k) 56 = W at kcv klv ks kr ko ⊢
    unfold imX imY
    generalize hZ : va_up W 29 (upd (X 29) k (nI 1)) = Z
    have ez : ∀ j, (j < 154 + 23 * k ∨ 175 + 23 * k < j) → ¬ j = 29 → Z j = X j := fun j a b => by rw [← hZ, va_up_ne _ _ b, ko j a]
    have ezw : ∀ j, ¬ j = 29 → Z j = W j := fun j b => by rw [← hZ, va_up_ne _ _ b]
    have z29 : Z 29 = upd (X 29) k (nI 1) := by rw [← hZ, va_up_self]
    generalize hV : va_up (va_up (va_up Z 199 (upd (Z 199) 0 (nI 0))) 227 (va_cpy (Z 201) (Z 227) 0 (438 * k) 438)) 229 (upd (Z 229) k (nI 1)) = V
    have ev : ∀ j, (j < 154 + 23 * k ∨ 175 + 23 * k < j) → ¬ j = 29 → ¬ j = 199 → ¬ j = 227 → ¬ j = 229 → V j = X j := fun j a b c d e => by rw [← hV, va_up_ne _ _ e, va_up_ne _ _ d, va_up_ne _ _ c, ez j a b]
    have evw : ∀ j, ¬ j = 29 → ¬ j = 199 → ¬ j = 227 → ¬ j = 229 → V j = W j := fun j b c d e => by rw [← hV, va_up_ne _ _ e, va_up_ne _ _ d, va_up_ne _ _ c, ezw j b]
    have v29 : V 29 = upd (X 29) k (nI 1) := by rw [← hV, va_up_ne _ _ (by omega), va_up_ne _ _ (by omega), va_up_ne _ _ (by omega), z29]
    have v199 : ∀ j, ¬ j = 0 → V 199 j = X 199 j := fun j a => by rw [← hV, va_up_ne _ _ (by omega), va_up_ne _ _ (by omega), va_up_self, pk_un a, ez 199 (by omega) (by omega)]
    have v227 : V 227 = va_cpy (X 201) (X 227) 0 (438 * k) 438 := by rw [← hV, va_up_ne _ _ (by omega), va_up_self, ez 201 (by omega) (by omega), ez 227 (by omega) (by omega)]
    have v229 : V 229 = upd (X 229) k (nI 1) := by rw [← hV, va_up_self, ez 229 (by omega) (by omega)]
    generalize hU : va_up (ccY Y (154 + 23 * k) 47) 228 (va_cpy (ccY Y (154 + 23 * k) 47 204) (ccY Y (154 + 23 * k) 47 228) 0 (16 * k) 16) = U
    have cy : ∀ j, ¬ j = 155 + 23 * k → ¬ j = 158 + 23 * k → ccY Y (154 + 23 * k) 47 j = Y j := fun j a b => by
      unfold ccY
      rw [if_neg (by omega)]
    have eu : ∀ j, ¬ j = 155 + 23 * k → ¬ j = 158 + 23 * k → ¬ j = 228 → U j = Y j := fun j a b c => by rw [← hU, va_up_ne _ _ c, cy j a b]
    have u228 : U 228 = va_cpy (Y 204) (Y 228) 0 (16 * k) 16 := by rw [← hU, va_up_self, cy 204 (by omega) (by omega), cy 228 (by omega) (by omega)]
    have u155 : ∀ j, j < 8 → U (155 + 23 * k) j = Y 48 j := fun j hj => by
      rw [← hU, va_up_ne _ _ (by omega)]
      unfold ccY
      rw [if_pos (by omega), pk_cpy_in (by omega) (by omega), show 47 + (155 + 23 * k - (154 + 23 * k)) = 48 by omega, show 0 + (j - 0) = j by omega]
    have u158 : ∀ j, j < 8 → U (158 + 23 * k) j = Y 51 j := fun j hj => by
      rw [← hU, va_up_ne _ _ (by omega)]
      unfold ccY
      rw [if_pos (by omega), pk_cpy_in (by omega) (by omega), show 47 + (158 + 23 * k - (154 + 23 * k)) = 51 by omega, show 0 + (j - 0) = j by omega]
    have himg : ∀ k', k' < 2 → WIk (BN (n + 1)) (TN' (n + 1)) k' V U := by
      intro k' hk'
      by_cases c : k' = k
      · subst c
        unfold WIk
        rw [v29, v229, pk_us, pk_us]
        refine ⟨rfl, Or.inr ?_⟩
        have hcv : cv V (154 + 23 * k') = cv W (154 + 23 * k') := cv_eq (fun j x y => evw j (by omega) (by omega) (by omega) (by omega))
        have hlv : lv V (167 + 23 * k') = lv W (167 + 23 * k') := lv_eq (fun j x y => evw j (by omega) (by omega) (by omega) (by omega))
        rw [hcv, hlv]
        refine PLr_cg (PLr_mono h.now hB hT) (fun j hj => ?_) (fun j hj => ?_) kcv klv u155 u158 ?_ ?_ (fun j hj => ⟨?_, ?_, ?_⟩)
        · unfold im0
          rw [v227, pk_cpy_in (by omega) (by omega), show 0 + (438 * k' + j - 438 * k') = j by omega]
        · unfold im1
          rw [u228, pk_cpy_in (by omega) (by omega), show 0 + (16 * k' + j - 16 * k') = j by omega]
        · rw [evw _ (by omega) (by omega) (by omega) (by omega), ks 4 (Or.inl rfl)]
        · rw [evw _ (by omega) (by omega) (by omega) (by omega), ks 5 (Or.inr rfl)]
        · rw [evw _ (by omega) (by omega) (by omega) (by omega), show 163 + 23 * k' = 162 + 23 * k' + 1 by omega, kr 1 j (by omega) (by omega) hj]
        · rw [evw _ (by omega) (by omega) (by omega) (by omega), show 164 + 23 * k' = 162 + 23 * k' + 2 by omega, kr 2 j (by omega) (by omega) hj]
        · rw [evw _ (by omega) (by omega) (by omega) (by omega), show 165 + 23 * k' = 162 + 23 * k' + 3 by omega, kr 3 j (by omega) (by omega) hj]
      · refine WIk_cg (WIk_mono (h.img k' hk') hB hT) ?_ ?_ (fun j hj => ?_) (fun j hj => ?_) (fun j x y => ev j (by omega) (by omega) (by omega) (by omega) (by omega)) (eu _ (by omega) (by omega) (by omega)) (eu _ (by omega) (by omega) (by omega))
        · rw [v29, pk_un c]
        · rw [v229, pk_un c]
        · unfold im0
          rw [v227, pk_cpy_out (by omega)]
        · unfold im1
          rw [u228, pk_cpy_out (by omega)]
    obtain ⟨h1, h2, h3, h4, h5, h6, h7, h8, h9, -, -, h12, h13⟩ := WW_mono h
    have e : ∀ j, j < 154 ∨ 198 < j → ¬ j = 29 → ¬ j = 199 → ¬ j = 227 → ¬ j = 229 → V j = X j := fun j a b c d e => ev j (by omega) b c d e
    refine ⟨?_, ?_, ?_, ?_, ?_, ?_, ?_, ?_, fun j hj => ?_, himg 0 (by omega), himg 1 (by omega), ?_, ?_⟩
    · rw [e 0 (by omega) (by omega) (by omega) (by omega) (by omega), v199 2 (by omega), e 1 (by omega) (by omega) (by omega) (by omega) (by omega), e 200 (by omega) (by omega) (by omega) (by omega) (by omega)]
      exact h1
    · rw [e 0 (by omega) (by omega) (by omega) (by omega) (by omega), v199 15 (by omega)]
      exact h2
    · rw [e 0 (by omega) (by omega) (by omega) (by omega) (by omega), v199 29 (by omega), v199 30 (by omega)]
      exact h3
    · rw [e 0 (by omega) (by omega) (by omega) (by omega) (by omega), v199 24 (by omega), e 46 (by omega) (by omega) (by omega) (by omega) (by omega), e 207 (by omega) (by omega) (by omega) (by omega) (by omega)]
      exact h4
    · rw [e 35 (by omega) (by omega) (by omega) (by omega) (by omega), v199 34 (by omega), e 37 (by omega) (by omega) (by omega) (by omega) (by omega), e 212 (by omega) (by omega) (by omega) (by omega) (by omega)]
      exact h5
    · rw [e 38 (by omega) (by omega) (by omega) (by omega) (by omega), v199 38 (by omega), e 39 (by omega) (by omega) (by omega) (by omega) (by omega), e 40 (by omega) (by omega) (by omega) (by omega) (by omega), e 213 (by omega) (by omega) (by omega) (by omega) (by omega), e 214 (by omega) (by omega) (by omega) (by omega) (by omega)]
      exact h6
    · rw [e 42 (by omega) (by omega) (by omega) (by omega) (by omega), v199 44 (by omega), e 45 (by omega) (by omega) (by omega) (by omega) (by omega), e 221 (by omega) (by omega) (by omega) (by omega) (by omega), e 222 (by omega) (by omega) (by omega) (by omega) (by omega), e 223 (by omega) (by omega) (by omega) (by omega) (by omega)]
      exact h7
    · rw [e 30 (by omega) (by omega) (by omega) (by omega) (by omega), v199 54 (by omega), e 224 (by omega) (by omega) (by omega) (by omega) (by omega)]
      exact h8
    · rw [eu 205 (by omega) (by omega) (by omega)]
      exact h9 j hj
    · rw [e 201 (by omega) (by omega) (by omega) (by omega) (by omega), eu 204 (by omega) (by omega) (by omega), eu 48 (by omega) (by omega) (by omega), eu 51 (by omega) (by omega) (by omega), e 56 (by omega) (by omega) (by omega) (by omega) (by omega), e 57 (by omega) (by omega) (by omega) (by omega) (by omega), e 58 (by omega) (by omega) (by omega) (by omega) (by omega), e 59 (by omega) (by omega) (by omega) (by omega) (by omega), cv_eq (X := X) (X' := V) (c := 47) (fun j x y => e j (by omega) (by omega) (by omega) (by omega) (by omega)), lv_eq (X := X) (X' := V) (o := 61) (fun j x y => e j (by omega) (by omega) (by omega) (by omega) (by omega))]
      exact h12
    · rw [e 79 (by omega) (by omega) (by omega) (by omega) (by omega), v199 28 (by omega), e 208 (by omega) (by omega) (by omega) (by omega) (by omega)]
      exact WPs_lz h13 (fun old j => lv_eq (fun i x y => by
        have := slot_ge old j
        exact e i (by omega) (by omega) (by omega) (by omega) (by omega)))
  · rw [if_neg q]
    refine ⟨rfl, rfl, _, rfl, ⟨_, _, rfl⟩, ?_⟩
    rw [rimage_eq (d := 59) hG, if_neg q]
    exact fin_tz h
theorem s_restore {x : Int32} (hG : G.1 = false) (h : WW n X Y) : PO G sl n 171 287 [some (.ref 0), some (.int x)] [some (.ref 199), some (.int x), none] X Y := by
  unfold PO
  have hok : okI (X 29) x = okI (X 229) x := by
    unfold okI
    cases q : pI 2 x
    · rfl
    · obtain ⟨k, hk, rfl⟩ := (pI_nat (by omega)).mp q
      rw [iN_nI (by omega), (h.img k hk).1]
  rw [trestore_eq (d := 57) hG]
  by_cases q : okI (X 29) x = true
  · rw [if_pos q]
    have q1 : pI 2 x = true := by
      unfold okI at q
      simp only [Bool.and_eq_true] at q
      exact q.1
    obtain ⟨k, hk, rfl⟩ := (pI_nat (by omega)).mp q1
    have q2 : ¬ X 29 k = nI 0 := by
      unfold okI at q
      simp only [Bool.and_eq_true, decide_eq_true_eq] at q
      rw [iN_nI (by omega)] at q
      exact q.2
    rw [iN_nI (by omega), trX_eq hk, trY_eq hk]
    refine ⟨rfl, rfl, _, rfl, ⟨_, _, rfl⟩, ?_⟩
    have hB : BN n ≤ BN (n + 1) := by unfold BN; omega
    have hT : TN' n ≤ TN' (n + 1) := by unfold TN'; omega
    have kcv := plX_cv (X := X) (a := 47) (b := 154 + 23 * k) (o := 61) (q := 167 + 23 * k) (s := 56) (t := 162 + 23 * k) (by omega) (by omega)
    have klv := plX_lv (X := X) (a := 47) (b := 154 + 23 * k) (o := 61) (q := 167 + 23 * k) (s := 56) (t := 162 + 23 * k) (by omega) (by omega) (by omega)
    have ks : ∀ j, j = 4 ∨ j = 5 → plX X 47 (154 + 23 * k) 61 (167 + 23 * k) 56 (162 + 23 * k) 56 j = X (162 + 23 * k) j := fun j hj => plX_s (by omega) (by omega) hj
    have kr : ∀ i j, 1 ≤ i → i ≤ 3 → j < 40 → plX X 47 (154 + 23 * k) 61 (167 + 23 * k) 56 (162 + 23 * k) (56 + i) j = X (162 + 23 * k + i) j := fun i j a b c => plX_r (by omega) (by omega) a b c
    have ko : ∀ j, (j < 47 ∨ 69 < j) → plX X 47 (154 + 23 * k) 61 (167 + 23 * k) 56 (162 + 23 * k) j = X j := fun j a => plX_out (by omega) (by omega) (by omega)
    generalize plX X 47 (154 + 23 * k) 61 (167 + 23 * k) 56 (162 + 23 * k) = W at kcv klv ks kr ko ⊢
    generalize hZ : va_up W 79 (upd (X 79) 2 (nI 0)) = Z
    have ez : ∀ j, (j < 47 ∨ 69 < j) → ¬ j = 79 → Z j = X j := fun j a b => by rw [← hZ, va_up_ne _ _ b, ko j a]
    have ezw : ∀ j, ¬ j = 79 → Z j = W j := fun j b => by rw [← hZ, va_up_ne _ _ b]
    have z79 : Z 79 = upd (X 79) 2 (nI 0) := by rw [← hZ, va_up_self]
    have cy : ∀ j, ¬ j = 48 → ¬ j = 51 → ccY Y 47 (154 + 23 * k) j = Y j := fun j a b => by
      unfold ccY
      rw [if_neg (by omega)]
    rw [rrestore_eq (d := 59), if_pos (by rw [ez 229 (by omega) (by omega), ← hok]; exact q), iN_nI (by omega)]
    refine ⟨rfl, rfl, rfl, _, _, rfl, ?_⟩
    unfold reX reY
    generalize hV : va_up (va_up Z 199 (upd (upd (Z 199) 0 (nI 0)) 28 (nI 0))) 201 (va_cpy (Z 227) (Z 201) (438 * k) 0 438) = V
    have ev : ∀ j, (j < 47 ∨ 69 < j) → ¬ j = 79 → ¬ j = 199 → ¬ j = 201 → V j = X j := fun j a b c d => by rw [← hV, va_up_ne _ _ d, va_up_ne _ _ c, ez j a b]
    have evw : ∀ j, ¬ j = 79 → ¬ j = 199 → ¬ j = 201 → V j = W j := fun j b c d => by rw [← hV, va_up_ne _ _ d, va_up_ne _ _ c, ezw j b]
    have v79 : V 79 = upd (X 79) 2 (nI 0) := by rw [← hV, va_up_ne _ _ (by omega), va_up_ne _ _ (by omega), z79]
    have v199 : V 199 = upd (upd (X 199) 0 (nI 0)) 28 (nI 0) := by rw [← hV, va_up_ne _ _ (by omega), va_up_self, ez 199 (by omega) (by omega)]
    have v201 : V 201 = va_cpy (X 227) (X 201) (438 * k) 0 438 := by rw [← hV, va_up_self, ez 227 (by omega) (by omega), ez 201 (by omega) (by omega)]
    have f199 : ∀ j, ¬ j = 0 → ¬ j = 28 → V 199 j = X 199 j := fun j a b => by rw [v199, pk_un b, pk_un a]
    generalize hU : va_up (ccY Y 47 (154 + 23 * k)) 204 (va_cpy (ccY Y 47 (154 + 23 * k) 228) (ccY Y 47 (154 + 23 * k) 204) (16 * k) 0 16) = U
    have eu : ∀ j, ¬ j = 48 → ¬ j = 51 → ¬ j = 204 → U j = Y j := fun j a b c => by rw [← hU, va_up_ne _ _ c, cy j a b]
    have u204 : U 204 = va_cpy (Y 228) (Y 204) (16 * k) 0 16 := by rw [← hU, va_up_self, cy 228 (by omega) (by omega), cy 204 (by omega) (by omega)]
    have u48 : ∀ j, j < 8 → U 48 j = Y (155 + 23 * k) j := fun j hj => by
      rw [← hU, va_up_ne _ _ (by omega)]
      unfold ccY
      rw [if_pos (by omega), pk_cpy_in (by omega) (by omega), show 154 + 23 * k + (48 - 47) = 155 + 23 * k by omega, show 0 + (j - 0) = j by omega]
    have u51 : ∀ j, j < 8 → U 51 j = Y (158 + 23 * k) j := fun j hj => by
      rw [← hU, va_up_ne _ _ (by omega)]
      unfold ccY
      rw [if_pos (by omega), pk_cpy_in (by omega) (by omega), show 154 + 23 * k + (51 - 47) = 158 + 23 * k by omega, show 0 + (j - 0) = j by omega]
    have hpl : PLr (BN (n + 1)) (TN' (n + 1)) (V 201) (U 204) (cv V 47) (lv V 61) (U 48) (U 51) (V 56) (V 57) (V 58) (V 59) := by
      have hw := (h.img k hk).2
      have hcv : cv V 47 = cv W 47 := cv_eq (fun j x y => evw j (by omega) (by omega) (by omega))
      have hlv : lv V 61 = lv W 61 := lv_eq (fun j x y => evw j (by omega) (by omega) (by omega))
      rcases hw with hw | hw
      · exact absurd hw q2
      · rw [hcv, hlv]
        refine PLr_cg (PLr_mono hw hB hT) (fun j hj => ?_) (fun j hj => ?_) kcv klv u48 u51 ?_ ?_ (fun j hj => ⟨?_, ?_, ?_⟩)
        · unfold im0
          rw [v201, pk_cpy_in (by omega) (by omega), show 438 * k + (j - 0) = 438 * k + j by omega]
        · unfold im1
          rw [u204, pk_cpy_in (by omega) (by omega), show 16 * k + (j - 0) = 16 * k + j by omega]
        · rw [evw _ (by omega) (by omega) (by omega), ks 4 (Or.inl rfl)]
        · rw [evw _ (by omega) (by omega) (by omega), ks 5 (Or.inr rfl)]
        · rw [evw _ (by omega) (by omega) (by omega), show 57 = 56 + 1 from rfl, kr 1 j (by omega) (by omega) hj, show 162 + 23 * k + 1 = 163 + 23 * k by omega]
        · rw [evw _ (by omega) (by omega) (by omega), show 58 = 56 + 2 from rfl, kr 2 j (by omega) (by omega) hj, show 162 + 23 * k + 2 = 164 + 23 * k by omega]
        · rw [evw _ (by omega) (by omega) (by omega), show 59 = 56 + 3 from rfl, kr 3 j (by omega) (by omega) hj, show 162 + 23 * k + 3 = 165 + 23 * k by omega]
    obtain ⟨old, m, hold, hm, p1, p2, p3, hUs, hLI⟩ := h.past
    obtain ⟨h1, h2, h3, -, -, -, -, h8, -⟩ := id h
    refine WW_gen (X' := V) (Y' := U) h (fun j hj => ?_) (fun j hj => ?_) ?_ (fun j hj => ?_) ?_ ?_ ?_ ?_ hpl ?_
    · unfold ck at hj
      exact ev j (by omega) (by omega) (by omega) (by omega)
    · unfold ckf at hj
      exact f199 j (by omega) (by omega)
    · rw [ev 0 (by omega) (by omega) (by omega) (by omega)]
    · unfold cky at hj
      exact eu j (by omega) (by omega) (by omega)
    · rw [ev 0 (by omega) (by omega) (by omega) (by omega), f199 2 (by omega) (by omega), ev 1 (by omega) (by omega) (by omega) (by omega), ev 200 (by omega) (by omega) (by omega) (by omega)]
      exact h1
    · rw [ev 0 (by omega) (by omega) (by omega) (by omega), f199 15 (by omega) (by omega)]
      exact h2
    · rw [ev 0 (by omega) (by omega) (by omega) (by omega), f199 29 (by omega) (by omega), f199 30 (by omega) (by omega)]
      exact h3
    · rw [ev 30 (by omega) (by omega) (by omega) (by omega), f199 54 (by omega) (by omega), ev 224 (by omega) (by omega) (by omega) (by omega)]
      exact h8
    · rw [v79, pk_us, pk_un (by omega), v199, pk_us]
      exact ⟨old, 0, hold, by omega, p1, rfl, rfl, ⟨by omega, fun c hc => absurd hc (by omega)⟩, fun c hc => absurd hc (by omega)⟩
  · rw [if_neg q]
    refine ⟨rfl, rfl, _, rfl, ⟨_, _, rfl⟩, ?_⟩
    rw [rrestore_eq (d := 59), if_neg (by rw [← hok]; exact q)]
    exact fin_tz h
end STK
