/-! CLASS AND REFERENCE: UNDO, draws, odds, STRIKE -/
section STG
variable {G : ai_G} {sl n P S B T B' T' : Nat} {X X' : mX} {Y Y' : mY} {l l' k k' : Nat → Nat → Int32} {s s' : Nat → Int32}
theorem s_undo (hG : G.1 = false) (hn : n ≤ 512) (h : WW n X Y) : PO G sl n 94 215 [some (.ref 0)] [some (.ref 199), none] X Y := by
  obtain ⟨old, m, hold, hm, e1, e2, e3, hU, hLI⟩ := h.past
  obtain ⟨b1, b2, b3, b4⟩ := BN_ok hn
  unfold PO
  rw [tundo_eq (d := 57) hG e1 e2 hold hm]
  by_cases q : m = 0
  · rw [if_pos q]
    refine ⟨rfl, rfl, _, rfl, ⟨_, _, rfl⟩, ?_⟩
    exact undo_wp hU e3 (fun _ => fin_tz h) (fun q2 => absurd q2 (by omega))
  · rw [if_neg q]
    refine ⟨rfl, rfl, _, rfl, ⟨_, _, rfl⟩, ?_⟩
    have hg := slot_ge old (m - 1)
    generalize hZ : plv (psX X old (m - 1)) 61 (cpyL (lv X 61) (lv X (slot old (m - 1)))) = Z
    have hz : ∀ j, (j < 61 ∨ 69 < j) → ¬ j = 79 → Z j = X j := fun j a b => by
      rw [← hZ, plv_out (by omega)]
      unfold psX
      rw [va_up_ne _ _ b]
    have z79 : Z 79 = upd (upd (X 79) 1 (nI old)) 2 (nI (m - 1)) := by
      rw [← hZ, plv_out (by omega)]
      unfold psX
      rw [va_up_self]
    have zl : LEQ (lv Z 61) (cpyL (lv X 61) (lv X (slot old (m - 1)))) := by
      rw [← hZ]
      exact LEQ_plv _
    refine undo_wp (X := Z) (m := m) (ls := fun j => lv X (slot old j)) (by rw [hz 208 (by omega) (by omega)]; exact hU) (by rw [hz 199 (by omega) (by omega)]; exact e3) (fun q2 => absurd q2 q) (fun _ s' g1 g2 => ?_)
    refine ⟨rfl, rfl, rfl, _, _, rfl, ?_⟩
    have hp := PLr_act (B' := BN (n + 1)) (T' := TN' (n + 1)) (s' := s') h.now (LSx_cg (LSx_cpy g1) zl.symm) (LI_peq (LI_cp _ ((hLI (m - 1) (by omega)).mono (by omega) (by omega))) (PEQ_leq zl)) (fun i hi => by rw [g2 i hi, hz 201 (by omega) (by omega)])
    have hl61 : lv (va_up (va_up Z 199 (upd (upd (Z 199) 0 0) 28 (nI (m - 1)))) 201 s') 61 = lv Z 61 := lv_eq (fun k a b => by rw [va_up_ne _ _ (by omega), va_up_ne _ _ (by omega)])
    have hc47 : cv (va_up (va_up Z 199 (upd (upd (Z 199) 0 0) 28 (nI (m - 1)))) 201 s') 47 = cv X 47 := cv_eq (fun k a b => by rw [va_up_ne _ _ (by omega), va_up_ne _ _ (by omega), hz k (by omega) (by omega)])
    have hgen := fun A1 A2 A3 A4 A5 A6 A7 A8 A9 A10 => WW_gen (X' := va_up (va_up Z 199 (upd (upd (Z 199) 0 0) 28 (nI (m - 1)))) 201 s') (Y' := Y) h A1 A2 A3 A4 A5 A6 A7 A8 A9 A10
    have h1 := h.1
    have h2 := h.2.1
    have h3 := h.2.2.1
    have h8 := h.2.2.2.2.2.2.2.1
    have f199 : ∀ j, ¬ j = 0 → ¬ j = 28 → va_up (va_up Z 199 (upd (upd (Z 199) 0 0) 28 (nI (m - 1)))) 201 s' 199 j = X 199 j := fun j a b => by
      rw [va_up_ne _ _ (by omega), va_up_self, pk_un b, pk_un a, hz 199 (by omega) (by omega)]
    have ez : ∀ j, (j < 61 ∨ 69 < j) → ¬ j = 79 → ¬ j = 199 → ¬ j = 201 → va_up (va_up Z 199 (upd (upd (Z 199) 0 0) 28 (nI (m - 1)))) 201 s' j = X j := fun j a b c d => by
      rw [va_up_ne _ _ d, va_up_ne _ _ c, hz j a b]
    refine hgen (fun k hk => ?_) (fun j hj => ?_) ?_ (fun _ _ => rfl) ?_ ?_ ?_ ?_ ?_ ?_
    · unfold ck at hk
      exact ez k (by omega) (by omega) (by omega) (by omega)
    · unfold ckf at hj
      exact f199 j (by omega) (by omega)
    · rw [ez 0 (by omega) (by omega) (by omega) (by omega)]
    · rw [ez 0 (by omega) (by omega) (by omega) (by omega), ez 1 (by omega) (by omega) (by omega) (by omega), ez 200 (by omega) (by omega) (by omega) (by omega), f199 2 (by omega) (by omega)]
      exact h1
    · rw [ez 0 (by omega) (by omega) (by omega) (by omega), f199 15 (by omega) (by omega)]
      exact h2
    · rw [ez 0 (by omega) (by omega) (by omega) (by omega), f199 29 (by omega) (by omega), f199 30 (by omega) (by omega)]
      exact h3
    · rw [ez 30 (by omega) (by omega) (by omega) (by omega), f199 54 (by omega) (by omega), ez 224 (by omega) (by omega) (by omega) (by omega)]
      exact h8
    · rw [va_up_self, hc47, hl61, ez 56 (by omega) (by omega) (by omega) (by omega), ez 57 (by omega) (by omega) (by omega) (by omega), ez 58 (by omega) (by omega) (by omega) (by omega), ez 59 (by omega) (by omega) (by omega) (by omega)]
      exact hp
    · have e79 : va_up (va_up Z 199 (upd (upd (Z 199) 0 0) 28 (nI (m - 1)))) 201 s' 79 = Z 79 := by rw [va_up_ne _ _ (by omega), va_up_ne _ _ (by omega)]
      rw [e79, z79, pk_us, pk_un (by omega), pk_us, ez 208 (by omega) (by omega) (by omega) (by omega), show va_up (va_up Z 199 (upd (upd (Z 199) 0 0) 28 (nI (m - 1)))) 201 s' 199 28 = nI (m - 1) from by rw [va_up_ne _ _ (by omega), va_up_self, pk_us]]
      have es : ∀ j, lv (va_up (va_up Z 199 (upd (upd (Z 199) 0 0) 28 (nI (m - 1)))) 201 s') (slot old j) = lv X (slot old j) := fun j => lv_eq (fun k a b => by
        have := slot_ge old j
        exact ez k (by omega) (by omega) (by omega) (by omega))
      refine ⟨old, m - 1, hold, by omega, rfl, rfl, rfl, ⟨by omega, fun c hc => ?_⟩, fun c hc => ?_⟩
      · show LSx _ (lv (va_up (va_up Z 199 (upd (upd (Z 199) 0 0) 28 (nI (m - 1)))) 201 s') (slot old c))
        rw [es c]
        exact hU.2 c (by omega)
      · show LI (lv (va_up (va_up Z 199 (upd (upd (Z 199) 0 0) 28 (nI (m - 1)))) 201 s') (slot old c)) _ _
        rw [es c]
        exact (hLI c (by omega)).mono (by omega) (by omega)
theorem s_drawn {x y z : Int32} (hG : G.1 = false) (hn : n ≤ 512) (h : WW n X Y) : PO G sl n 135 263 [some (.ref 0), some (.int x), some (.int y), some (.int z)] [some (.ref 199), some (.int x), some (.int y), some (.int z)] X Y := by
  obtain ⟨P, S, nm, hk, hc, hl, hi, hnm, hs⟩ := h.now
  obtain ⟨old, m, hold, hm, e1, e2, e3, hU, hLI⟩ := h.past
  obtain ⟨⟨g, hg, hgk⟩, -, c3, c4, -⟩ := hc
  obtain ⟨b1, b2, b3, b4⟩ := BN_ok hn
  have hP := hk.1
  unfold PO
  refine tdrawn_wp (d := 55) hG hk.1 hk.2.2.1 e1 e2 hold hm (fun q => ?_) (fun N M qx qy hN1 hN2 hM1 hM2 hw => ?_)
  · refine ⟨rfl, rfl, _, rfl, ⟨_, _, rfl⟩, ?_⟩
    refine drawn_wp (d := 56) hg hgk hl hk hU e3 (fun _ => fin_tz h) (fun N M qx qy hN1 hN2 hM1 hM2 hw => ?_)
    rw [q] at hw
    exact absurd hw (by decide)
  · subst qx qy
    refine ⟨rfl, rfl, _, rfl, ⟨_, _, rfl⟩, ?_⟩
    have hP0 : 0 < P := by
      unfold okY at hw
      simp only [Bool.and_eq_true, decide_eq_true_eq] at hw
      exact hw.2.2.1
    refine drawn_wp (d := 56) (l := lv X 61) (k := cv X 47) (P := P) (S := S) (m := m) (ls := fun j => lv X (slot old j)) hg hgk (by rw [act_at (by omega)]; exact hl) (by rw [act_at (by omega)]; exact hk) (by rw [act_at (by omega)]; exact hU) (by rw [act_at (by omega)]; exact e3) (fun q => ?_) (fun N' M' qx qy hN1' hN2' hM1' hM2' hw' s' u' g1 g2 g3 => ?_)
    · rw [q] at hw
      exact absurd hw (by decide)
    · have eN : N = N' := (nI_eq (by omega) (by omega)).mp qx
      have eM : M = M' := (nI_eq (by omega) (by omega)).mp qy
      subst eN eM
      refine ⟨rfl, rfl, rfl, _, _, rfl, ?_⟩
      unfold ups
      refine act_fin (L := (drawsR (cv X 47) P M N (lv X 61, z, 0)).1) h hold hm hLI ((LI_draws hP hP0 hg hgk c3 c4 hM2 N (BN n) (lv X 61, z, 0) (by omega) hi).mono (by omega) (by omega)) (fun j q1 q2 q3 => ?_) ?_ (fun i q => ?_) ?_ ?_ (fun j q1 q2 q3 => ?_)
      · rw [va_up_ne _ _ q2, va_up_ne _ _ q1, va_up_ne _ _ q3, va_up_ne _ _ q1]
      · rw [va_up_self]; exact g1
      · rw [va_up_self, g2 i q, act_at (by omega)]
      · rw [va_up_ne _ _ (by omega), va_up_ne _ _ (by omega), va_up_self]; exact g3
      · rw [va_up_ne _ _ (by omega), va_up_self, pk_un (by omega), va_up_ne _ _ (by omega), va_up_self, pk_us]
      · rw [va_up_ne _ _ (by omega), va_up_self, pk_un q3, va_up_ne _ _ (by omega), va_up_self, pk_un q2, pk_un q1, act_at (by omega)]
theorem s_odds {x y z : Int32} (hG : G.1 = false) (h : WW n X Y) : PO G sl n 139 266 [some (.ref 0), some (.int x), some (.int y), some (.int z), none, none] [some (.ref 199), some (.int x), some (.int y), some (.int z), none, none] X Y := by
  obtain ⟨P, S, nm, hk, hc, hl, hi, hnm, hs⟩ := h.now
  obtain ⟨⟨g, hg, hgk⟩, -⟩ := hc
  unfold PO
  refine todds_wp (d := 55) hG hk.1 hk.2.2.1 (fun L => ?_)
  refine ⟨rfl, rfl, _, rfl, ⟨_, _, rfl⟩, ?_⟩
  have hz : ∀ j, (j < 70 ∨ 78 < j) → plv X 70 L j = X j := fun j a => plv_out (by omega)
  refine odds_wp (d := 56) (l := lv X 61) (k := cv X 47) (P := P) (S := S) hg hgk (by rw [hz 201 (by omega)]; exact hl) (by rw [hz 201 (by omega)]; exact hk) (fun X' g1 g2 g3 g4 => ?_)
  refine ⟨rfl, rfl, rfl, _, _, rfl, ?_⟩
  have ez : ∀ j, (j < 70 ∨ 78 < j) → ¬ j = 199 → ¬ j = 201 → ¬ j = 209 → X' j = X j := fun j a b c d => by rw [g3 j b c d, hz j a]
  have f199 : ∀ j, ¬ j = 0 → ¬ j = 50 → X' 199 j = X 199 j := fun j a b => by rw [g4 j a b, hz 199 (by omega)]
  have hB : BN n ≤ BN (n + 1) := by unfold BN; omega
  have hT : TN' n ≤ TN' (n + 1) := by unfold TN'; omega
  have hp := PLr_act (B' := BN (n + 1)) (T' := TN' (n + 1)) h.now g1 (hi.mono hB hT) (fun i q => by rw [g2 i q, hz 201 (by omega)])
  have hl61 : lv X' 61 = lv X 61 := lv_eq (fun k a b => ez k (by omega) (by omega) (by omega) (by omega))
  have hc47 : cv X' 47 = cv X 47 := cv_eq (fun k a b => ez k (by omega) (by omega) (by omega) (by omega))
  have h1 := h.1
  have h2 := h.2.1
  have h3 := h.2.2.1
  have h8 := h.2.2.2.2.2.2.2.1
  refine WW_gen (X' := X') (Y' := Y) h (fun k hk => ?_) (fun j hj => ?_) ?_ (fun _ _ => rfl) ?_ ?_ ?_ ?_ ?_ ?_
  · unfold ck at hk
    exact ez k (by omega) (by omega) (by omega) (by omega)
  · unfold ckf at hj
    exact f199 j (by omega) (by omega)
  · rw [ez 0 (by omega) (by omega) (by omega) (by omega)]
  · rw [ez 0 (by omega) (by omega) (by omega) (by omega), ez 1 (by omega) (by omega) (by omega) (by omega), ez 200 (by omega) (by omega) (by omega) (by omega), f199 2 (by omega) (by omega)]
    exact h1
  · rw [ez 0 (by omega) (by omega) (by omega) (by omega), f199 15 (by omega) (by omega)]
    exact h2
  · rw [ez 0 (by omega) (by omega) (by omega) (by omega), f199 29 (by omega) (by omega), f199 30 (by omega) (by omega)]
    exact h3
  · rw [ez 30 (by omega) (by omega) (by omega) (by omega), f199 54 (by omega) (by omega), ez 224 (by omega) (by omega) (by omega) (by omega)]
    exact h8
  · rw [hc47, hl61, ez 56 (by omega) (by omega) (by omega) (by omega), ez 57 (by omega) (by omega) (by omega) (by omega), ez 58 (by omega) (by omega) (by omega) (by omega), ez 59 (by omega) (by omega) (by omega) (by omega)]
    exact hp
  · rw [ez 79 (by omega) (by omega) (by omega) (by omega), f199 28 (by omega) (by omega), ez 208 (by omega) (by omega) (by omega) (by omega)]
    exact WPs_mono (WPs_lz h.past (fun old j => lv_eq (fun k a b => by
      have := slot_ge old j
      exact ez k (by omega) (by omega) (by omega) (by omega)))) hB hT
end STG
