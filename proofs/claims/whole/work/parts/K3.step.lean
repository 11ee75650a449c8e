/-! CLASS AND REFERENCE: BOOK -/
section STM
variable {G : ai_G} {sl n P S B T B' T' : Nat} {X X' : mX} {Y Y' : mY} {l l' k k' : Nat → Nat → Int32} {s s' : Nat → Int32}
theorem PEQ.sm (h : PEQ l l') : PEQ l' l := ⟨fun j p a b c e => (h.1 j p a b c e).symm, fun i hi => (h.2.1 i hi).symm, fun j a b => (h.2.2 j a b).symm⟩
theorem PEQ_lq (h : LQ l l') : PEQ l l' := ⟨fun j p a b _ _ => by rw [h.1 j a (by omega)], fun i _ => by rw [h.1 5 (by omega) (by omega)], h.2⟩
theorem WBk_cg {f f' g : Nat → Int32} {b : Int32} (h : WBk f b g) (e : ∀ j, ¬ j = 4 → f' j = f j) : WBk f' b g := by
  obtain ⟨h1, h2⟩ := h
  refine ⟨by rw [e 5 (by omega)]; exact h1, ?_⟩
  rcases h2 with h2 | ⟨r, h2, h3⟩
  · exact Or.inl (by rw [e 5 (by omega)]; exact h2)
  · refine Or.inr ⟨r, ?_, h3⟩
    unfold bkT at h2 ⊢
    rw [e 5 (by omega), e 6 (by omega), e 7 (by omega), e 8 (by omega), e 9 (by omega)]
    exact h2
theorem WW.tn (h : WW n X Y) : ∃ P S nm, KS (X 201) (cv X 47) P S ∧ CI (cv X 47) P S ∧ LSx (X 201) (lv X 61) ∧ LI (lv X 61) (BN n) (TN' n) ∧ TN X Y nm P S ∧ RNM X Y nm P S ∧ SNr P S (X 201) (X 56) (X 57) (X 58) (X 59) := by
  obtain ⟨P, S, nm, hk, hc, hl, hi, ⟨n1, n2, n3, n4⟩, hs⟩ := h.now
  refine ⟨P, S, nm, hk, hc, hl, hi, ⟨hk.1, hk.2.1, hk.2.2.1, hk.2.2.2.1, n1, n2⟩, ⟨hk.1, hk.2.1, hk.2.2.2.2.1, hk.2.2.2.2.2.1, fun q hq => ⟨?_, (n1 q hq).2⟩, fun q hq => ⟨n4 q hq, (n2 q hq).2⟩⟩, hs⟩
  rw [Nat.zero_add]
  exact n3 q hq
/-- behind a BOOK or a SENTENCE -/
theorem bk_fin (h : WW n X Y) (hE : ∀ k, 28 ≤ k ∨ k = 1 → (k < 30 ∨ 34 < k) → (k < 56 ∨ 152 < k) → ¬ k = 199 → ¬ k = 201 → ¬ k = 203 → ¬ k = 206 → ¬ k = 208 → ¬ k = 209 → ¬ k = 224 → ¬ k = 225 → X' k = X k) (h0 : ∀ j, ¬ j = 15 → ¬ j = 16 → X' 0 j = X 0 j) (h15 : X' 0 15 = nI 0) (hy : ∀ k, 3 ≤ k → ¬ k = 199 → Y' k = Y k) (hf : ∀ j, 19 ≤ j → ¬ j = 25 → ¬ j = 28 → ¬ (50 ≤ j ∧ j ≤ 60) → X' 199 j = X 199 j) (h2 : X' 199 2 = nI 0) (hF : X' 0 16 = X' 199 15) (hB : WBk (X' 30) (X' 199 54) (X' 224)) (hP : PLr (BN (n + 1)) (TN' (n + 1)) (X' 201) (Y 204) (cv X 47) (lv X' 61) (Y 48) (Y 51) (X' 56) (X' 57) (X' 58) (X' 59)) (hW : WPs (BN (n + 1)) (TN' (n + 1)) (X' 79 1) (X' 79 2) (X' 199 28) (X' 208) (fun o => lv X' o)) : WW (n + 1) X' Y' := by
  obtain ⟨sz, t, hsz, e1, e2, t1, t2⟩ := h.1
  have hc47 : cv X' 47 = cv X 47 := cv_eq (fun k a b => hE k (by omega) (by omega) (by omega) (by omega) (by omega) (by omega) (by omega) (by omega) (by omega) (by omega) (by omega))
  refine WW_gen (X' := X') (Y' := Y') h (fun k hk => ?_) (fun j hj => ?_) (h0 14 (by omega) (by omega)) (fun k hk => ?_) ?_ hF ?_ hB ?_ hW
  · unfold ck at hk
    exact hE k (by omega) (by omega) (by omega) (by omega) (by omega) (by omega) (by omega) (by omega) (by omega) (by omega) (by omega)
  · unfold ckf at hj
    exact hf j (by omega) (by omega) (by omega) (by omega)
  · unfold cky at hk
    exact hy k (by omega) (by omega)
  · rw [h15, h2, hE 1 (by omega) (by omega) (by omega) (by omega) (by omega) (by omega) (by omega) (by omega) (by omega) (by omega) (by omega), hE 200 (by omega) (by omega) (by omega) (by omega) (by omega) (by omega) (by omega) (by omega) (by omega) (by omega) (by omega)]
    exact ⟨0, t, by omega, rfl, rfl, t1, t2⟩
  · rw [h0 17 (by omega) (by omega), hf 29 (by omega) (by omega) (by omega) (by omega), hf 30 (by omega) (by omega) (by omega) (by omega)]
    exact h.2.2.1
  · rw [hc47, hy 204 (by omega) (by omega), hy 48 (by omega) (by omega), hy 51 (by omega) (by omega)]
    exact hP
/-- a FAULT's end -/
theorem book_e {X1 : mX} {Y1 : mY} {e : Nat} (h : WW n X Y) (f1 : FK X Y X1 Y1) (f2 : X1 0 16 = nI e) (f3 : ∀ j, ¬ j = 4 → X1 30 j = X 30 j) (b : BW X1 Y1 X' Y') (b2 : X' 199 15 = nI e) : WW (n + 1) X' Y' := by
  obtain ⟨x1, x2, x3, x4⟩ := f1
  obtain ⟨r1, r2, r3, r4, r5⟩ := b
  have hB : BN n ≤ BN (n + 1) := by unfold BN; omega
  have hT : TN' n ≤ TN' (n + 1) := by unfold TN'; omega
  have ex : ∀ k, ¬ k = 0 → ¬ k = 2 → (k < 30 ∨ 34 < k) → ¬ k = 199 → ¬ k = 203 → X' k = X k := fun k a b c d e => by rw [r1 k d e, x1 k a b (by omega)]
  have f199 : ∀ j, 19 ≤ j → ¬ j = 51 → X' 199 j = X 199 j := fun j a b => by rw [r3 j (by omega) (by omega) (by omega) (by omega) b, x1 199 (by omega) (by omega) (by omega)]
  have hl61 : lv X' 61 = lv X 61 := lv_eq (fun k a b => ex k (by omega) (by omega) (by omega) (by omega) (by omega))
  refine bk_fin h (fun k a b c d e f g _ _ _ _ => ex k (by omega) (by omega) b d f) (fun j a b => ?_) ?_ (fun k a b => ?_) (fun j a b c d => f199 j a (by omega)) r5 ?_ ?_ ?_ ?_
  · rw [r1 0 (by omega) (by omega), x2 j a b]
  · rw [r1 0 (by omega) (by omega), x3]
  · rw [r2 k b, x4 k (by omega)]
  · rw [r1 0 (by omega) (by omega), f2, b2]
  · rw [f199 54 (by omega) (by omega), ex 224 (by omega) (by omega) (by omega) (by omega) (by omega), r1 30 (by omega) (by omega)]
    exact WBk_cg h.2.2.2.2.2.2.2.1 f3
  · rw [hl61, ex 201 (by omega) (by omega) (by omega) (by omega) (by omega), ex 56 (by omega) (by omega) (by omega) (by omega) (by omega), ex 57 (by omega) (by omega) (by omega) (by omega) (by omega), ex 58 (by omega) (by omega) (by omega) (by omega) (by omega), ex 59 (by omega) (by omega) (by omega) (by omega) (by omega)]
    exact PLr_mono h.now hB hT
  · rw [ex 79 (by omega) (by omega) (by omega) (by omega) (by omega), f199 28 (by omega) (by omega), ex 208 (by omega) (by omega) (by omega) (by omega) (by omega)]
    exact WPs_mono (WPs_lz h.past (fun old j => lv_eq (fun i x y => by
      have := slot_ge old j
      exact ex i (by omega) (by omega) (by omega) (by omega) (by omega)))) hB hT
/-- a lived BOOK's end -/
theorem book_f {W : mX} {U : mY} {L : Nat → Nat → Int32} {r : LR} {F' : Nat → Int32} {mp : Nat} {ls : Nat → Nat → Nat → Int32} (h : WW n X Y) (hW : ∀ k, ¬ k = 0 → ¬ k = 2 → (k < 30 ∨ 34 < k) → (k < 61 ∨ 152 < k) → W k = X k) (hW0 : ∀ j, ¬ j = 15 → ¬ j = 16 → W 0 j = X 0 j) (hW15 : W 0 15 = nI 0) (hW16 : W 0 16 = nI 0) (hW30 : W 30 = F') (hF : bkT F' r) (hU : ∀ k, ¬ k = 2 → U k = Y k) (hL : PEQ (lv W 61) L) (b : BV W U X' Y') (b2 : X' 199 15 = nI 0) (b3 : bk4 (X' 224) r) (b4 : LSx (X' 201) L) (hI : LI L (BN (n + 1)) (TN' (n + 1))) (hp : WPs (BN (n + 1)) (TN' (n + 1)) (X' 79 1) (X' 79 2) (X' 199 28) (X' 208) (fun o => lv X' o)) : WW (n + 1) X' Y' := by
  obtain ⟨r1, r2, r3, r4, r5, r6, r7⟩ := b
  have hB : BN n ≤ BN (n + 1) := by unfold BN; omega
  have hT : TN' n ≤ TN' (n + 1) := by unfold TN'; omega
  have ew : ∀ k, ¬ k = 199 → ¬ k = 201 → ¬ k = 203 → ¬ k = 206 → ¬ k = 208 → ¬ k = 209 → ¬ k = 224 → X' k = W k := r1
  have ex : ∀ k, ¬ k = 0 → ¬ k = 2 → (k < 30 ∨ 34 < k) → (k < 61 ∨ 152 < k) → ¬ k = 199 → ¬ k = 201 → ¬ k = 203 → ¬ k = 206 → ¬ k = 208 → ¬ k = 209 → ¬ k = 224 → X' k = X k := fun k a b c d e f g i j m p => by rw [ew k e f g i j m p, hW k a b c d]
  have hl61 : lv X' 61 = lv W 61 := lv_eq (fun k a b => ew k (by omega) (by omega) (by omega) (by omega) (by omega) (by omega) (by omega))
  have h30 : X' 30 = F' := by rw [ew 30 (by omega) (by omega) (by omega) (by omega) (by omega) (by omega) (by omega), hW30]
  refine bk_fin h (fun k a b c d e f g i j m p => ex k (by omega) (by omega) b (by omega) d e f g i j m) (fun j a b => ?_) ?_ (fun k a b => ?_) (fun j a b c d => ?_) r6 ?_ ⟨?_, ?_⟩ ?_ hp
  · rw [ew 0 (by omega) (by omega) (by omega) (by omega) (by omega) (by omega) (by omega), hW0 j a b]
  · rw [ew 0 (by omega) (by omega) (by omega) (by omega) (by omega) (by omega) (by omega), hW15]
  · rw [r3 k b, hU k (by omega)]
  · rw [r4 j (by omega) (by omega) (by omega) (by omega) b c (by omega) (by omega) (by omega), hW 199 (by omega) (by omega) (by omega) (by omega)]
  · rw [ew 0 (by omega) (by omega) (by omega) (by omega) (by omega) (by omega) (by omega), hW16, b2]
  · rw [r7, h30]
    exact hF.1.symm
  · rw [h30]
    exact Or.inr ⟨r, hF, b3⟩
  · rw [hl61, ex 56 (by omega) (by omega) (by omega) (by omega) (by omega) (by omega) (by omega) (by omega) (by omega) (by omega) (by omega), ex 57 (by omega) (by omega) (by omega) (by omega) (by omega) (by omega) (by omega) (by omega) (by omega) (by omega) (by omega), ex 58 (by omega) (by omega) (by omega) (by omega) (by omega) (by omega) (by omega) (by omega) (by omega) (by omega) (by omega), ex 59 (by omega) (by omega) (by omega) (by omega) (by omega) (by omega) (by omega) (by omega) (by omega) (by omega) (by omega)]
    exact PLr_act h.now (LSx_peq b4 hL (fun _ _ _ => rfl)) (LI_peq hI hL) (fun i hi => by rw [r2 i hi, hW 201 (by omega) (by omega) (by omega) (by omega)])
set_option maxHeartbeats 4000000 in
theorem s_book {x : Int32} (hG : G.1 = false) (hn : n ≤ 512) (h : WW n X Y) : PO G sl n 143 271 [some (.ref 0), some (.int x), none, none] [some (.ref 199), some (.int x), none, none, none] X Y := by
  obtain ⟨P, S, nm, hk, hc, hl, hi, htn, hrn, hs⟩ := h.tn
  obtain ⟨sz, t, hsz, e1, e2, t1, t2⟩ := h.1
  obtain ⟨old, m0, hold, hm, p1, p2, p3, hU, hLI⟩ := h.past
  obtain ⟨c1, c2, c3, c4⟩ := BN_ok hn
  have hP := hk.1
  have hS := hk.2.1
  have hR := h.2.2.2.2.2.2.2.2.1
  unfold PO
  cases hx : inI (nI 0) (nI 1) x
  · rw [tbook_bad hx]
    refine ⟨rfl, rfl, _, rfl, ⟨_, _, rfl⟩, ?_⟩
    rw [rbook_bad (d := 59) hx]
    exact fin_tz h
  · obtain ⟨a, ha0, ha, rfl⟩ := inI_nat (by omega) (by omega) hx
    rcases (show a = 0 ∨ a = 1 by omega) with rfl | rfl
    · refine tbook_0 (d := 47) (t := t) (n := sz) hG t1 e1 hsz htn p1 p2 hold hm (fun e j hs1 X1 Y1 f1 f2 f3 => ?_) (fun m B hs1 hm30 hBB X1 Y1 l2 F' f1 f2 f3 f4 => ?_)
      · refine ⟨rfl, rfl, _, rfl, ⟨_, _, rfl⟩, ?_⟩
        have hcl : LSx (X1 201) (lv X 61) := by rw [f1.1 201 (by omega) (by omega) (by omega)]; exact hl
        refine rbook_0 (d := 55) (t := t) (n := sz) (nm := nm) (P := P) (S := S) (l := lv X 61) (k := cv X 47) (m0 := m0) (ls := fun j => lv X (slot old j)) (B0 := BN n) (T := TN' n) (by rw [f1.2.2.2 205 (by omega)]; exact hR) (by rw [f1.1 200 (by omega) (by omega) (by omega)]; exact t2) (by rw [f1.1 199 (by omega) (by omega) (by omega)]; exact e2) hsz ?_ hcl (by rw [f1.1 201 (by omega) (by omega) (by omega)]; exact hk) hc hi (by omega) (by omega) (by rw [f1.1 208 (by omega) (by omega) (by omega)]; exact hU) (by rw [f1.1 199 (by omega) (by omega) (by omega)]; exact p3) (fun e' j' hs2 X2 Y2 g1 g2 => ?_) (fun m' B' hs2 hm30' hBB' X2 Y2 g1 g2 g3 g4 g5 g6 => ?_)
        · unfold RNM
          rw [f1.1 201 (by omega) (by omega) (by omega), f1.2.2.2 204 (by omega)]
          exact hrn
        · rw [hs1] at hs2
          cases hs2
          exact ⟨rfl, rfl, rfl, _, _, rfl, book_e h f1 f2 f3 g1 g2⟩
        · rw [hs1] at hs2
          cases hs2
      · refine ⟨rfl, rfl, _, rfl, ⟨_, _, rfl⟩, ?_⟩
        generalize hV : plv (va_up X1 30 F') 70 l2 = W
        have ew1 : ∀ k, ¬ k = 30 → (k < 70 ∨ 78 < k) → W k = X1 k := fun k a b => by rw [← hV, plv_out (by omega), va_up_ne _ _ a]
        have ew : ∀ k, ¬ k = 0 → ¬ k = 2 → (k < 30 ∨ 34 < k) → (k < 70 ∨ 78 < k) → W k = X k := fun k a b c d => by rw [ew1 k (by omega) d, f1.1 k a b (by omega)]
        have w30 : W 30 = F' := by rw [← hV, plv_out (by omega), va_up_self]
        refine rbook_0 (d := 55) (t := t) (n := sz) (nm := nm) (P := P) (S := S) (l := cpyL (lv X 70) (lv X 61)) (k := cv X 47) (m0 := m0) (ls := fun j => lv X (slot old j)) (B0 := BN n) (T := TN' n) (by rw [f1.2.2.2 205 (by omega)]; exact hR) (by rw [ew 200 (by omega) (by omega) (by omega) (by omega)]; exact t2) (by rw [ew 199 (by omega) (by omega) (by omega) (by omega)]; exact e2) hsz ?_ (by rw [ew 201 (by omega) (by omega) (by omega) (by omega)]; exact LSx_cpy hl) (by rw [ew 201 (by omega) (by omega) (by omega) (by omega)]; exact hk) hc (LI_cp _ hi) (by omega) (by omega) (by rw [ew 208 (by omega) (by omega) (by omega) (by omega)]; exact hU) (by rw [ew 199 (by omega) (by omega) (by omega) (by omega)]; exact p3) (fun e' j' hs2 X2 Y2 g1 g2 => ?_) (fun m' B' hs2 hm30' hBB' X2 Y2 g1 g2 g3 g4 g5 g6 => ?_)
        · unfold RNM
          rw [ew 201 (by omega) (by omega) (by omega) (by omega), f1.2.2.2 204 (by omega)]
          exact hrn
        · rw [hs1] at hs2
          cases hs2
        · rw [hs1] at hs2
          cases hs2
          refine ⟨rfl, rfl, rfl, _, _, rfl, ?_⟩
          refine book_f (W := W) (L := cpyL (lv X 70) (lv X 61)) (F' := F') (mp := 0) (ls := fun _ => lv X 61) h (fun k a b c d => ew k a b c (by omega)) (fun j a b => by rw [ew1 0 (by omega) (by omega), f1.2.1 j a b]) (by rw [ew1 0 (by omega) (by omega), f1.2.2.1]) (by rw [ew1 0 (by omega) (by omega), f2]) w30 f4 f1.2.2.2 ?_ g1 g2 g3 g4 (LI_cp _ (hi.mono (by omega) (by omega))) ?_
          · rw [lv_eq (X := X) (X' := W) (o := 61) (fun k a b => ew k (by omega) (by omega) (by omega) (by omega))]
            exact (PEQ_cpy _ _).sm
          · have ex : ∀ k, 79 ≤ k → k ≤ 152 → X2 k = X k := fun k a b => by rw [g1.1 k (by omega) (by omega) (by omega) (by omega) (by omega) (by omega) (by omega), ew k (by omega) (by omega) (by omega) (by omega)]
            have es : ∀ j, lv X2 (slot old j) = lv X (slot old j) := fun j => lv_eq (fun i x y => by
              have := slot_ge old j
              exact ex i (by omega) (by omega))
            refine ⟨old, m0, hold, hm, by rw [ex 79 (by omega) (by omega)]; exact p1, by rw [ex 79 (by omega) (by omega)]; exact p2, g6, ⟨hm, fun c hc => ?_⟩, fun j hj => ?_⟩
            · show LSx _ (lv X2 (slot old c))
              rw [es c]
              exact g5.2 c hc
            · show LI (lv X2 (slot old j)) _ _
              rw [es j]
              exact (hLI j hj).mono (by omega) (by omega)
    · refine tbook_1 (d := 47) (t := t) (n := sz) hG t1 e1 hsz htn p1 p2 hold hm (fun e j hs1 X1 Y1 f1 f2 f3 => ?_) (fun m B hs1 hm30 hBB X1 Y1 l2 F' f1 f2 f3 f4 => ?_)
      · refine ⟨rfl, rfl, _, rfl, ⟨_, _, rfl⟩, ?_⟩
        have hcl : LSx (X1 201) (lv X 61) := by rw [f1.1 201 (by omega) (by omega) (by omega)]; exact hl
        refine rbook_1 (d := 55) (t := t) (n := sz) (nm := nm) (P := P) (S := S) (l := lv X 61) (k := cv X 47) (m0 := m0) (ls := fun j => lv X (slot old j)) (B0 := BN n) (T := TN' n) (by rw [f1.2.2.2 205 (by omega)]; exact hR) (by rw [f1.1 200 (by omega) (by omega) (by omega)]; exact t2) (by rw [f1.1 199 (by omega) (by omega) (by omega)]; exact e2) hsz ?_ hcl (by rw [f1.1 201 (by omega) (by omega) (by omega)]; exact hk) hc hi (by omega) (by omega) (by rw [f1.1 208 (by omega) (by omega) (by omega)]; exact hU) (by rw [f1.1 199 (by omega) (by omega) (by omega)]; exact p3) (fun e' j' hs2 X2 Y2 g1 g2 => ?_) (fun m' B' hs2 hm30' hBB' X2 Y2 g1 g2 g3 g4 g5 g6 => ?_)
        · unfold RNM
          rw [f1.1 201 (by omega) (by omega) (by omega), f1.2.2.2 204 (by omega)]
          exact hrn
        · rw [hs1] at hs2
          cases hs2
          exact ⟨rfl, rfl, rfl, _, _, rfl, book_e h f1 f2 f3 g1 g2⟩
        · rw [hs1] at hs2
          cases hs2
      · refine ⟨rfl, rfl, _, rfl, ⟨_, _, rfl⟩, ?_⟩
        generalize hV : plv (va_up (plv X1 70 (cpyL (lv X 70) (lv X 61))) 30 F') 61 l2 = W
        have ew1 : ∀ k, ¬ k = 30 → (k < 61 ∨ 78 < k) → W k = X1 k := fun k a b => by rw [← hV, plv_out (by omega), va_up_ne _ _ a, plv_out (by omega)]
        have ew : ∀ k, ¬ k = 0 → ¬ k = 2 → (k < 30 ∨ 34 < k) → (k < 61 ∨ 78 < k) → W k = X k := fun k a b c d => by rw [ew1 k (by omega) d, f1.1 k a b (by omega)]
        have w30 : W 30 = F' := by rw [← hV, plv_out (by omega), va_up_self]
        have w61 : LEQ (lv W 61) l2 := by rw [← hV]; exact LEQ_plv _
        have w70 : LEQ (lv W 70) (cpyL (lv X 70) (lv X 61)) := by
          rw [← hV, lv_plv_ne (by omega), lv_up (by omega)]
          exact LEQ_plv _
        have hIr := LI_liveR (B := B) (B0 := 0) (T := 0) hc hP hS m 0 (BN n) (TN' n) (lv X 61) (nI 0) (nI 0) (by rw [Nat.zero_add]; exact hBB) hi (by omega) (by omega)
        have hIr2 := hIr.mono (B' := BN (n + 1)) (T' := TN' (n + 1)) (by omega) (by omega)
        generalize hr : liveR (cv X 47) P B m 0 (lv X 61) (nI 0) (nI 0) = r at f3 f4 hIr2 ⊢
        generalize hZ : (if r.2.2.1 = 0 then W else pushX W old m0 70) = Z
        have ez : ∀ k, (k < 79 ∨ 152 < k) → Z k = W k := fun k a => by
          rw [← hZ]
          split
          · rfl
          · exact pushX_at a
        refine rbook_1 (d := 55) (t := t) (n := sz) (nm := nm) (P := P) (S := S) (l := lv X 61) (k := cv X 47) (m0 := m0) (ls := fun j => lv X (slot old j)) (B0 := BN n) (T := TN' n) (by rw [f1.2.2.2 205 (by omega)]; exact hR) (by rw [ez 200 (by omega), ew 200 (by omega) (by omega) (by omega) (by omega)]; exact t2) (by rw [ez 199 (by omega), ew 199 (by omega) (by omega) (by omega) (by omega)]; exact e2) hsz ?_ (by rw [ez 201 (by omega), ew 201 (by omega) (by omega) (by omega) (by omega)]; exact hl) (by rw [ez 201 (by omega), ew 201 (by omega) (by omega) (by omega) (by omega)]; exact hk) hc hi (by omega) (by omega) (by rw [ez 208 (by omega), ew 208 (by omega) (by omega) (by omega) (by omega)]; exact hU) (by rw [ez 199 (by omega), ew 199 (by omega) (by omega) (by omega) (by omega)]; exact p3) (fun e' j' hs2 X2 Y2 g1 g2 => ?_) (fun m' B' hs2 hm30' hBB' X2 Y2 g1 g2 g3 g4 g5 g6 => ?_)
        · unfold RNM
          rw [ez 201 (by omega), ew 201 (by omega) (by omega) (by omega) (by omega), f1.2.2.2 204 (by omega)]
          exact hrn
        · rw [hs1] at hs2
          cases hs2
        · rw [hs1] at hs2
          cases hs2
          rw [hr] at g3 g4 g5 g6 ⊢
          refine ⟨rfl, rfl, rfl, _, _, rfl, ?_⟩
          have zl : lv Z 61 = lv W 61 := lv_eq (fun k a b => ez k (by omega))
          refine book_f (W := Z) (L := r.2.2.2.1) (F' := F') (mp := 0) (ls := fun _ => lv X 61) h (fun k a b c d => by rw [ez k (by omega), ew k a b c (by omega)]) (fun j a b => by rw [ez 0 (by omega), ew1 0 (by omega) (by omega), f1.2.1 j a b]) (by rw [ez 0 (by omega), ew1 0 (by omega) (by omega), f1.2.2.1]) (by rw [ez 0 (by omega), ew1 0 (by omega) (by omega), f2]) (by rw [ez 30 (by omega), w30]) f4 f1.2.2.2 ?_ g1 g2 g3 g4 hIr2 ?_
          · rw [zl]
            exact (PEQ_leq w61).tr (PEQ_lq f3)
          · have ex : ∀ k, 79 ≤ k → k ≤ 152 → X2 k = Z k := fun k a b => g1.1 k (by omega) (by omega) (by omega) (by omega) (by omega) (by omega) (by omega)
            have ws : ∀ j, lv W (slot old j) = lv X (slot old j) := fun j => lv_eq (fun i x y => by
              have := slot_ge old j
              exact ew i (by omega) (by omega) (by omega) (by omega))
            by_cases q : r.2.2.1 = 0
            · rw [if_pos q] at hZ g5 g6
              subst hZ
              have e79 : X2 79 = X 79 := by rw [ex 79 (by omega) (by omega), ew 79 (by omega) (by omega) (by omega) (by omega)]
              have es : ∀ j, lv X2 (slot old j) = lv X (slot old j) := fun j => by
                rw [← ws j]
                exact lv_eq (fun i x y => by
                  have := slot_ge old j
                  exact ex i (by omega) (by omega))
              rw [if_pos q] at g5
              refine ⟨old, m0, hold, hm, by rw [e79]; exact p1, by rw [e79]; exact p2, g6, ⟨hm, fun c hc => ?_⟩, fun j hj => ?_⟩
              · show LSx _ (lv X2 (slot old c))
                rw [es c]
                exact g5.2 c hc
              · show LI (lv X2 (slot old j)) _ _
                rw [es j]
                exact (hLI j hj).mono (by omega) (by omega)
            · rw [if_neg q] at hZ g5 g6
              rw [if_neg q] at g5
              subst hZ
              rw [g6]
              refine WPs_push (X := W) (X' := X2) (o := 70) (l := lv X 61) hold hm ?_ (fun j hj => by rw [ws j]; exact (hLI j hj).mono (by omega) (by omega)) (fun s q => LSx_cg (LSx_cpy q) w70.symm) (LI_peq (LI_cp _ (hi.mono (by omega) (by omega))) (PEQ_leq w70)) (fun j a b => ex j a b)
              rw [show (fun j => lv W (slot old j)) = (fun j => lv X (slot old j)) from funext ws]
              exact g5
end STM
