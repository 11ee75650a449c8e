/-! CLASS AND REFERENCE: TOWN -/
section STL
variable {G : ai_G} {sl n P S B T B' T' : Nat} {X X' : mX} {Y Y' : mY} {l l' k k' : Nat → Nat → Int32} {s s' : Nat → Int32}
theorem bit_0 : ∀ p, p < 8 → bit (nI 0) (nI p) = nI 0 := by decide +kernel
theorem b01_z {p : Nat} (hp : p < 8) : b01 (bit (nI 0) (nI p) = 1) = nI 0 := by
  rw [bit_0 p hp]
  unfold b01
  rw [if_neg (by decide)]
  rfl
theorem rsum_0 {f : Nat → Int32} (h : ∀ p, p < 8 → f p = nI 0) : rsum f 0 8 0 = nI 0 := by
  rw [rsum_cg (g := f) (f := fun _ => nI 0) 8 0 0 (fun q _ hq => h q (by omega))]
  rfl
theorem town_KS {D : TD} (h : DC X Y D P S) (g : SD s D S) : KS s (cv X 6) P S := by
  obtain ⟨⟨a1, a2, a3, a4, a5, a6, a7, a8, a9, -, -⟩, ⟨b1, b2, b3, b4, b5, b6, b7, -⟩, -, -⟩ := h
  have e := g.1
  refine ⟨a1, a2, a5, a6, ?_, ?_, ?_, ?_, fun p hp => ?_, fun p hp => ?_, fun p hp => ?_, fun p hp => ?_, fun p hp => ?_, fun p hp => ?_, fun p hp => ?_⟩
  · rw [e 0 (by omega), a3]
  · rw [e 1 (by omega), a4]
  · rw [e 2 (by omega), ← a8]; rfl
  · rw [e 3 (by omega), ← a9]; rfl
  · rw [e _ (by omega), ← b3 p hp]; rfl
  · rw [e _ (by omega), ← b4 p hp]; rfl
  · rw [e _ (by omega), b1 p hp]; rfl
  · rw [e _ (by omega), b2 p hp]; rfl
  · rw [e _ (by omega), ← b5 p hp]; rfl
  · rw [e _ (by omega), ← b6 p hp]; rfl
  · rw [e _ (by omega), ← b7 p hp]; rfl
theorem town_CI {D : TD} (h : DC X Y D P S) : CI (cv X 6) P S := by
  obtain ⟨⟨a1, a2, a3, a4, a5, a6, a7, a8, a9, -, -⟩, ⟨b1, b2, b3, b4, b5, b6, b7, -⟩, ⟨c1, c2, c3, c4, c5, c6, c7, c8, c9⟩, -⟩ := h
  refine ⟨?_, ?_, fun p hp => ?_, fun p hp => ?_, fun p hp => ?_, fun p hp => ?_, fun p hp => ?_⟩
  · rw [← a8] at c1; exact c1
  · rw [← a9] at c2; exact c2
  · have := c4 p (by omega); rw [← b3 p hp] at this; exact this
  · have := c5 p (by omega); rw [← b4 p hp] at this; exact this
  · have := c7 p (by omega); rw [← b6 p hp] at this; exact this
  · have := c8 p (by omega); rw [← b7 p hp] at this; exact this
  · have := c6 p (by omega); rw [← b5 p hp] at this; exact this
theorem town_LS {D : TD} (h : DC X Y D P S) (g : SD s D S) : LSx s (lv X 19) := by
  obtain ⟨-, ⟨-, -, -, -, -, -, -, b8, b9, b10, b11⟩, -, ⟨d1, d2, d3, d4, d5, d6⟩⟩ := h
  obtain ⟨-, e2, e3, e4⟩ := g
  refine ⟨⟨?_, ?_, ?_, ?_, fun p hp => ?_, fun p hp => ?_, fun p hp => ?_, fun p hp => ?_, fun p hp => ?_, fun p hp => ?_, fun p hp => ?_, fun p hp => ?_⟩, ?_⟩
  · rw [e4 132 (by omega) (by omega) (by omega) (by omega) (by omega), ← d3]; rfl
  · rw [e4 134 (by omega) (by omega) (by omega) (by omega) (by omega), ← d4]; rfl
  · rw [e4 135 (by omega) (by omega) (by omega) (by omega) (by omega), ← d5]; rfl
  · rw [e4 136 (by omega) (by omega) (by omega) (by omega) (by omega), ← d6]; rfl
  · rw [(e2 p hp).1, ← b8 p hp]; rfl
  · rw [(e2 p hp).2.1, ← b9 p hp]; rfl
  · rw [e4 (153 + p) (by omega) (by omega) (by omega) (by omega) (by omega), show lv X 19 9 0 = nI 0 from d2, b01_z hp]
  · rw [e4 (161 + p) (by omega) (by omega) (by omega) (by omega) (by omega), ← (d1 p hp).1]; rfl
  · rw [e4 (169 + p) (by omega) (by omega) (by omega) (by omega) (by omega), ← (d1 p hp).2.1]; rfl
  · rw [e3 p hp, ← b10 p hp]; rfl
  · rw [e4 (241 + p) (by omega) (by omega) (by omega) (by omega) (by omega), ← (d1 p hp).2.2]; rfl
  · rw [(e2 p hp).2.2, ← b11 p hp]; rfl
  · rw [e4 133 (by omega) (by omega) (by omega) (by omega) (by omega)]
    exact (rsum_0 (f := lv X 19 3) (fun p hp => (d1 p hp).1)).symm
theorem town_LI {D : TD} (h : DC X Y D P S) (hB : 99 ≤ B) : LI (lv X 19) B T := by
  obtain ⟨-, ⟨-, -, -, -, -, -, -, b8, b9, b10, b11⟩, ⟨c1, c2, c3, c4, c5, c6, c7, c8, c9⟩, ⟨d1, d2, d3, d4, d5, d6⟩⟩ := h
  refine ⟨fun i hi => ?_, fun p hp => ?_, fun p hp => ?_, fun i hi => ?_, ?_⟩
  · obtain ⟨v, hv, ev⟩ := c9 i hi
    exact ⟨v, by omega, (b10 i hi).trans ev⟩
  · obtain ⟨v, hv, ev⟩ := c3 p hp
    exact ⟨v, by omega, (b8 p hp).trans ev⟩
  · obtain ⟨v, hv, ev⟩ := c4 p hp
    exact ⟨v, by omega, (b9 p hp).trans ev⟩
  · exact ⟨0, by omega, (d1 i hi).2.2⟩
  · exact ⟨0, by omega, d2⟩
theorem E0_r : E0 (rD0 X) := by
  refine ⟨fun j hj => ?_, rfl, rfl⟩
  show (if j = 3 then nI 10 else if j < 132 then nI 0 else X 202 j) = _
  split
  · rfl
  · first | rfl | rw [if_pos hj]
theorem rD0_cg (h : X' 202 = X 202) : rD0 X' = rD0 X := by
  unfold rD0
  rw [h]
theorem s_town (hG : G.1 = false) (h : WW n X Y) : PO G sl n 15 182 [some (.ref 0), none] [some (.ref 199), none] X Y := by
  obtain ⟨sz, t, hsz, e1, e2, t1, t2⟩ := h.1
  have hB : BN n ≤ BN (n + 1) := by unfold BN; omega
  have hT : TN' n ≤ TN' (n + 1) := by unfold TN'; omega
  unfold PO
  refine ttown_wp (d := 53) (t := t) (n := sz) (D0 := rD0 X) E0_r hG t1 e1 hsz (fun e j hs X1 Y1 f1 f2 f3 => ?_) (fun m D hs X1 Y1 P S hD f1 f2 f3 f4 f5 => ?_)
  · refine ⟨rfl, rfl, _, rfl, ⟨_, _, rfl⟩, ?_⟩
    have x1 : ∀ k, 28 ≤ k → X1 k = X k := fun k a => f1.1 k (Or.inr a)
    have y1 : ∀ k, 11 ≤ k → Y1 k = Y k := fun k a => f3 k (Or.inr a)
    refine rtown_wp (d := 56) (t := t) (n := sz) (by rw [y1 205 (by omega)]; exact h.2.2.2.2.2.2.2.2.1) (by rw [x1 200 (by omega)]; exact t2) (by rw [x1 199 (by omega)]; exact e2) hsz (fun e' j' hs' X2 Y2 r1 r2 => ?_) (fun m' D' hs' X2 Y2 P' S' s w r1 r2 r3 r4 r5 => ?_)
    · rw [rD0_cg (x1 202 (by omega)), hs] at hs'
      cases hs'
      refine ⟨rfl, rfl, rfl, _, _, rfl, ?_⟩
      obtain ⟨q1, q2, q3, q4, q5, q6⟩ := r1
      have ex : ∀ k, 28 ≤ k → ¬ k = 199 → ¬ k = 202 → X2 k = X k := fun k a b c => by rw [q1 k b c, x1 k a]
      have ey : ∀ k, 11 ≤ k → ¬ k = 199 → ¬ k = 204 → Y2 k = Y k := fun k a b c => by rw [q2 k b c, y1 k a]
      have x0 : X2 0 = X1 0 := q1 0 (by omega) (by omega)
      have f199 : ∀ j, 22 ≤ j → X2 199 j = X 199 j := fun j a => by rw [q4 j (by omega) (by omega) (by omega) (by omega), x1 199 (by omega)]
      have hl61 : lv X2 61 = lv X 61 := lv_eq (fun k a b => ex k (by omega) (by omega) (by omega))
      have hc47 : cv X2 47 = cv X 47 := cv_eq (fun k a b => ex k (by omega) (by omega) (by omega))
      refine WW_gen (X' := X2) (Y' := Y2) h (fun k hk => ?_) (fun j hj => ?_) ?_ (fun k hk => ?_) ?_ ?_ ?_ ?_ ?_ ?_
      · unfold ck at hk
        exact ex k (by omega) (by omega) (by omega)
      · unfold ckf at hj
        exact f199 j (by omega)
      · rw [x0, f1.2.2 14 (by omega) (by omega)]
      · unfold cky at hk
        exact ey k (by omega) (by omega) (by omega)
      · rw [x0, f1.2.1, q6, q1 1 (by omega) (by omega), f1.1 1 (Or.inl rfl), ex 200 (by omega) (by omega) (by omega)]
        exact ⟨0, t, by omega, rfl, rfl, t1, t2⟩
      · rw [x0, f2, r2]
      · rw [x0, f1.2.2 17 (by omega) (by omega), f199 29 (by omega), f199 30 (by omega)]
        exact h.2.2.1
      · rw [ex 30 (by omega) (by omega) (by omega), f199 54 (by omega), ex 224 (by omega) (by omega) (by omega)]
        exact h.2.2.2.2.2.2.2.1
      · rw [hl61, hc47, ex 201 (by omega) (by omega) (by omega), ey 48 (by omega) (by omega) (by omega), ey 51 (by omega) (by omega) (by omega), ex 56 (by omega) (by omega) (by omega), ex 57 (by omega) (by omega) (by omega), ex 58 (by omega) (by omega) (by omega), ex 59 (by omega) (by omega) (by omega)]
        refine PLr_cg (PLr_mono h.now hB hT) (fun _ _ => rfl) (fun j hj => ?_) (KE.rfl' _) (PEQ.rfl' _) (fun _ _ => rfl) (fun _ _ => rfl) rfl rfl (fun _ _ => ⟨rfl, rfl, rfl⟩)
        rw [q3 j hj, y1 204 (by omega)]
      · rw [ex 79 (by omega) (by omega) (by omega), f199 28 (by omega), ex 208 (by omega) (by omega) (by omega)]
        exact WPs_mono (WPs_lz h.past (fun old j => lv_eq (fun i x y => by
          have := slot_ge old j
          exact ex i (by omega) (by omega) (by omega)))) hB hT
    · rw [rD0_cg (x1 202 (by omega)), hs] at hs'
      cases hs'
  · refine ⟨rfl, rfl, _, rfl, ⟨_, _, rfl⟩, ?_⟩
    have x1 : ∀ k, 28 ≤ k → X1 k = X k := fun k a => f1.1 k (Or.inr a)
    have y1 : ∀ k, 11 ≤ k → Y1 k = Y k := fun k a => f5 k (Or.inr a)
    have kcv := plX_cv (X := X1) (a := 47) (b := 6) (o := 61) (q := 19) (s := 56) (t := 14) (by omega) (by omega)
    have klv := plX_lv (X := X1) (a := 47) (b := 6) (o := 61) (q := 19) (s := 56) (t := 14) (by omega) (by omega) (by omega)
    have ks : plX X1 47 6 61 19 56 14 56 5 = X1 14 5 := plX_s (by omega) (by omega) (Or.inr rfl)
    have ko : ∀ j, (j < 47 ∨ 69 < j) → plX X1 47 6 61 19 56 14 j = X1 j := fun j a => plX_out (by omega) (by omega) (by omega)
    generalize plX X1 47 6 61 19 56 14 = W at kcv klv ks ko ⊢
    rw [ko 79 (by omega)]
    generalize hZ : va_up W 79 (upd (X1 79) 2 (nI 0)) = Z
    have ez : ∀ j, (j < 47 ∨ 69 < j) → ¬ j = 79 → Z j = X1 j := fun j a b => by rw [← hZ, va_up_ne _ _ b, ko j a]
    have ezw : ∀ j, ¬ j = 79 → Z j = W j := fun j b => by rw [← hZ, va_up_ne _ _ b]
    have z79 : Z 79 = upd (X 79) 2 (nI 0) := by rw [← hZ, va_up_self, x1 79 (by omega)]
    have cy : ∀ j, ¬ j = 48 → ¬ j = 51 → ccY Y1 47 6 j = Y1 j := fun j a b => by
      unfold ccY
      rw [if_neg (by omega)]
    refine rtown_wp (d := 56) (t := t) (n := sz) (by rw [cy 205 (by omega) (by omega), y1 205 (by omega)]; exact h.2.2.2.2.2.2.2.2.1) (by rw [ez 200 (by omega) (by omega), x1 200 (by omega)]; exact t2) (by rw [ez 199 (by omega) (by omega), x1 199 (by omega)]; exact e2) hsz (fun e' j' hs' X2 Y2 r1 r2 => ?_) (fun m' D' hs' X2 Y2 P' S' s w r1 r2 r3 r4 r5 => ?_)
    · rw [rD0_cg (X := X) (by rw [ez 202 (by omega) (by omega), x1 202 (by omega)]), hs] at hs'
      cases hs'
    · rw [rD0_cg (X := X) (by rw [ez 202 (by omega) (by omega), x1 202 (by omega)]), hs] at hs'
      cases hs'
      refine ⟨rfl, rfl, rfl, _, _, rfl, ?_⟩
      obtain ⟨q1, q2, q3, q4, q5, q6⟩ := r2
      obtain ⟨p1, p2, p3, p4, p5, p6, p7, -⟩ := r1
      have hDP : P' = P := (nI_eq (by omega) (by have := hD.1.1; omega)).mp (p4.symm.trans hD.1.2.2.1)
      have hDS : S' = S := (nI_eq (by omega) (by have := hD.1.2.1; omega)).mp (p5.symm.trans hD.1.2.2.2.1)
      subst hDP hDS
      generalize hV : va_up (va_up X2 199 (upd (X2 199) 28 (nI 0))) 201 s = V
      have evz : ∀ j, ¬ j = 199 → ¬ j = 201 → ¬ j = 202 → V j = Z j := fun j a b c => by rw [← hV, va_up_ne _ _ b, va_up_ne _ _ a, q1 j a c]
      have ev : ∀ j, 28 ≤ j → (j < 47 ∨ 69 < j) → ¬ j = 79 → ¬ j = 199 → ¬ j = 201 → ¬ j = 202 → V j = X j := fun j a b c d e f => by rw [evz j d e f, ez j b c, x1 j a]
      have v0 : V 0 = X1 0 := by rw [evz 0 (by omega) (by omega) (by omega), ez 0 (by omega) (by omega)]
      have v1 : V 1 = X 1 := by rw [evz 1 (by omega) (by omega) (by omega), ez 1 (by omega) (by omega), f1.1 1 (Or.inl rfl)]
      have v199 : V 199 = upd (X2 199) 28 (nI 0) := by rw [← hV, va_up_ne _ _ (by omega), va_up_self]
      have f199 : ∀ j, 22 ≤ j → ¬ j = 28 → V 199 j = X 199 j := fun j a b => by rw [v199, pk_un b, q4 j (by omega) (by omega) (by omega) (by omega), ez 199 (by omega) (by omega), x1 199 (by omega)]
      have v201 : V 201 = s := by rw [← hV, va_up_self]
      generalize hU : va_up Y2 204 w = U
      have eu : ∀ k, 11 ≤ k → ¬ k = 48 → ¬ k = 51 → ¬ k = 199 → ¬ k = 204 → U k = Y k := fun k a b c d e => by rw [← hU, va_up_ne _ _ e, q2 k d e, cy k b c, y1 k a]
      have u204 : U 204 = w := by rw [← hU, va_up_self]
      have u48 : ∀ j, j < 8 → U 48 j = Y1 7 j := fun j hj => by
        rw [← hU, va_up_ne _ _ (by omega), q2 48 (by omega) (by omega)]
        unfold ccY
        rw [if_pos (by omega), pk_cpy_in (by omega) (by omega), show 6 + (48 - 47) = 7 by omega, show 0 + (j - 0) = j by omega]
      have u51 : ∀ j, j < 8 → U 51 j = Y1 10 j := fun j hj => by
        rw [← hU, va_up_ne _ _ (by omega), q2 51 (by omega) (by omega)]
        unfold ccY
        rw [if_pos (by omega), pk_cpy_in (by omega) (by omega), show 6 + (51 - 47) = 10 by omega, show 0 + (j - 0) = j by omega]
      have hcv : cv V 47 = cv W 47 := cv_eq (fun j x y => by rw [evz j (by omega) (by omega) (by omega), ezw j (by omega)])
      have hlv : lv V 61 = lv W 61 := lv_eq (fun j x y => by rw [evz j (by omega) (by omega) (by omega), ezw j (by omega)])
      have hP8 := hD.1.1
      have hS8 := hD.1.2.1
      have hdn := hD.1.2.2.2.2.2.2.1
      have hB99 : 99 ≤ BN (n + 1) := by unfold BN; omega
      obtain ⟨old, m0, hold, hm0, pp1, pp2, pp3, hUs, hLI⟩ := h.past
      refine WW_gen (X' := V) (Y' := U) h (fun k hk => ?_) (fun j hj => ?_) ?_ (fun k hk => ?_) ?_ ?_ ?_ ?_ ?_ ?_
      · unfold ck at hk
        exact ev k (by omega) (by omega) (by omega) (by omega) (by omega) (by omega)
      · unfold ckf at hj
        exact f199 j (by omega) (by omega)
      · rw [v0, f1.2.2 14 (by omega) (by omega)]
      · unfold cky at hk
        exact eu k (by omega) (by omega) (by omega) (by omega) (by omega)
      · rw [v0, f1.2.1, v199, pk_un (by omega), q6, v1, ev 200 (by omega) (by omega) (by omega) (by omega) (by omega) (by omega)]
        exact ⟨0, t, by omega, rfl, rfl, t1, t2⟩
      · rw [v0, f2, v199, pk_un (by omega), r3]
      · rw [v0, f1.2.2 17 (by omega) (by omega), f199 29 (by omega) (by omega), f199 30 (by omega) (by omega)]
        exact h.2.2.1
      · rw [ev 30 (by omega) (by omega) (by omega) (by omega) (by omega) (by omega), f199 54 (by omega) (by omega), ev 224 (by omega) (by omega) (by omega) (by omega) (by omega) (by omega)]
        exact h.2.2.2.2.2.2.2.1
      · rw [v201, u204, hcv, hlv]
        refine ⟨P', S', D.2.1, KS_cg (town_KS hD r4) (fun _ _ => rfl) kcv, CI_cg hP8 hS8 (town_CI hD) kcv, LSx_peq (town_LS hD r4) klv (fun _ _ _ => rfl), LI_peq (town_LI hD hB99) klv, ⟨fun q hq => ?_, fun q hq => ?_, fun q hq => ?_, fun q hq => ?_⟩, Or.inl ⟨?_, ?_⟩⟩
        · rw [u48 q (by omega)]
          exact hdn.1 q hq
        · rw [u51 q (by omega)]
          exact hdn.2 q hq
        · rw [r5 q (by omega)]
          exact (p6 q hq).1
        · rw [r5 (8 + q) (by omega), show 16 + (8 + q) = 24 + q by omega]
          exact (p7 q hq).1
        · rw [evz 56 (by omega) (by omega) (by omega), ezw 56 (by omega), ks, f4]
        · exact r4.2.2.2 257 (by omega) (by omega) (by omega) (by omega) (by omega)
      · rw [evz 79 (by omega) (by omega) (by omega), z79, pk_us, pk_un (by omega), v199, pk_us]
        exact ⟨old, 0, hold, by omega, pp1, rfl, rfl, ⟨by omega, fun c hc => absurd hc (by omega)⟩, fun c hc => absurd hc (by omega)⟩
end STL
