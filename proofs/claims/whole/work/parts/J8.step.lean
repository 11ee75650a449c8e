/-! CLASS AND REFERENCE: STRIKE -/
section STH
variable {G : ai_G} {sl n P S B T B' T' : Nat} {X X' : mX} {Y Y' : mY} {l l' k k' : Nat → Nat → Int32} {s s' : Nat → Int32}
theorem st_peq {g : Nat → Int32} : PEQ (stG P l g) (stkL P l) := by
  unfold stG
  refine ⟨fun j p a b c e => ?_, fun i hi => ?_, fun j a b => ?_⟩
  · unfold vf_upd
    rw [if_neg (by omega)]
  · unfold vf_upd
    rw [if_neg (by omega)]
  · unfold vf_upd
    rw [if_neg (by omega)]
theorem stk_none (h : ringS (l 5) P = none) : PEQ (stkL P l) l := by
  unfold stkL
  rw [strk_none h]
  refine ⟨fun j p a b c e => ?_, fun i hi => ?_, fun j a b => ?_⟩
  · unfold vf_upd
    rw [if_neg (by omega), if_neg (by omega)]
  · unfold vf_upd
    rw [if_neg (by omega), if_pos rfl]
  · unfold vf_upd
    by_cases q : j = 12
    · subst q
      rw [if_pos rfl]
    · rw [if_neg q, if_neg (by omega)]
/-- behind a STRIKE -/
theorem str_fin {v : Nat → Int32} (hn : n ≤ 512) (h : WW n X Y) (hE : ∀ j, ¬ j = 0 → (j < 61 ∨ 78 < j) → (j < 79 ∨ 152 < j) → ¬ j = 199 → ¬ j = 201 → ¬ j = 206 → ¬ j = 208 → X' j = X j) (h0 : ∀ j, ¬ j = 17 → X' 0 j = X 0 j) (h17 : X' 0 17 = X' 199 30) (h29 : X' 199 29 = 1) (hf : ∀ j, ¬ j = 0 → ¬ j = 25 → ¬ j = 28 → ¬ j = 29 → ¬ j = 30 → X' 199 j = X 199 j) (hl : LSx (X' 201) (lv X' 61)) (hi : LI (lv X' 61) (BN (n + 1)) (TN' (n + 1))) (h201 : ∀ i, i < 132 ∨ 257 ≤ i → X' 201 i = X 201 i) (hW : WPs (BN (n + 1)) (TN' (n + 1)) (X' 79 1) (X' 79 2) (X' 199 28) (X' 208) (fun o => lv X' o)) : WW (n + 1) X' Y := by
  have hp := PLr_act (B' := BN (n + 1)) (T' := TN' (n + 1)) h.now hl hi h201
  have hc47 : cv X' 47 = cv X 47 := cv_eq (fun k a b => hE k (by omega) (by omega) (by omega) (by omega) (by omega) (by omega) (by omega))
  have h1 := h.1
  have h2 := h.2.1
  have h8 := h.2.2.2.2.2.2.2.1
  refine WW_gen (X' := X') (Y' := Y) h (fun k hk => ?_) (fun j hj => ?_) ?_ (fun _ _ => rfl) ?_ ?_ ?_ ?_ ?_ hW
  · unfold ck at hk
    exact hE k (by omega) (by omega) (by omega) (by omega) (by omega) (by omega) (by omega)
  · unfold ckf at hj
    exact hf j (by omega) (by omega) (by omega) (by omega) (by omega)
  · exact h0 14 (by omega)
  · rw [h0 15 (by omega), hE 1 (by omega) (by omega) (by omega) (by omega) (by omega) (by omega) (by omega), hE 200 (by omega) (by omega) (by omega) (by omega) (by omega) (by omega) (by omega), hf 2 (by omega) (by omega) (by omega) (by omega) (by omega)]
    exact h1
  · rw [h0 16 (by omega), hf 15 (by omega) (by omega) (by omega) (by omega) (by omega)]
    exact h2
  · rw [h29, h17]
    rfl
  · rw [hE 30 (by omega) (by omega) (by omega) (by omega) (by omega) (by omega) (by omega), hf 54 (by omega) (by omega) (by omega) (by omega) (by omega), hE 224 (by omega) (by omega) (by omega) (by omega) (by omega) (by omega) (by omega)]
    exact h8
  · rw [hc47, hE 56 (by omega) (by omega) (by omega) (by omega) (by omega) (by omega) (by omega), hE 57 (by omega) (by omega) (by omega) (by omega) (by omega) (by omega) (by omega), hE 58 (by omega) (by omega) (by omega) (by omega) (by omega) (by omega) (by omega), hE 59 (by omega) (by omega) (by omega) (by omega) (by omega) (by omega) (by omega)]
    exact hp
theorem strX_at {g : Nat → Int32} {j : Nat} (a : ¬ j = 0) (b : j < 61 ∨ 78 < j) : strX X P g j = X j := by
  unfold strX
  rw [va_up_ne _ _ a, plv_out (by omega), plv_out (by omega)]
theorem strX_0 {g : Nat → Int32} : strX X P g 0 = upd (X 0) 17 (strk P 64 (lv X 61 5) 0 0).2.1 := by
  unfold strX
  rw [va_up_self]
theorem strX_61 {g : Nat → Int32} : LEQ (lv (strX X P g) 61) (stG P (lv X 61) g) := by
  unfold strX
  rw [lv_up (by omega)]
  exact LEQ_plv _
theorem strX_70 {g : Nat → Int32} : LEQ (lv (strX X P g) 70) (cpyL (lv X 70) (lv X 61)) := by
  unfold strX
  rw [lv_up (by omega), lv_plv_ne (by omega)]
  exact LEQ_plv _
theorem s_strike (hG : G.1 = false) (hn : n ≤ 512) (h : WW n X Y) : PO G sl n 88 232 [some (.ref 0), none] [some (.ref 199), none] X Y := by
  obtain ⟨P, S, nm, hk, hc, hl, hi, hnm, hs⟩ := h.now
  obtain ⟨old, m, hold, hm, e1, e2, e3, hU, hLI⟩ := h.past
  obtain ⟨b1, b2, b3, b4⟩ := BN_ok hn
  have hP := hk.1
  have hq : NQ (lv X 61 5) := hi.nq (by omega)
  have hst := LI_stk hi hP (by omega)
  unfold PO
  refine tstrike_wp (d := 49) hG hP hk.2.2.1 e1 e2 hold hm (fun q g => ?_) (fun q g => ?_)
  · have hno : ringS (lv X 61 5) P = none := by
      cases hz : ringS (lv X 61 5) P with
      | none => rfl
      | some z =>
        have := strk_some (l := lv X 61) hz 0 0
        omega
    refine ⟨rfl, rfl, _, rfl, ⟨_, _, rfl⟩, ?_⟩
    refine rstrike_wp (d := 56) (l := lv X 61) (k := cv X 47) (P := P) (S := S) (m := m) (ls := fun j => lv X (slot old j)) (by rw [strX_at (by omega) (by omega)]; exact hl) (by rw [strX_at (by omega) (by omega)]; exact hk) hq (by rw [strX_at (by omega) (by omega)]; exact hU) (by rw [strX_at (by omega) (by omega)]; exact e3) (fun _ g' => ?_) (fun z hz => absurd hz (by rw [hno]; intro q; cases q))
    refine ⟨rfl, rfl, rfl, _, _, rfl, ?_⟩
    generalize hZ : strX X P g = Z
    have z0 : Z 0 = upd (X 0) 17 0 := by
      rw [← hZ, strX_0, strk_none hno]
    have ez : ∀ j, ¬ j = 0 → (j < 61 ∨ 78 < j) → Z j = X j := fun j a b => by rw [← hZ, strX_at a b]
    have zl : PEQ (lv Z 61) (lv X 61) := by
      rw [← hZ]
      exact (PEQ_leq strX_61).tr (st_peq.tr (stk_none hno))
    refine str_fin (v := g) hn h (fun j a b c d e f g => ?_) (fun j a => ?_) ?_ ?_ (fun j a b c d e => ?_) ?_ ?_ (fun i hi => ?_) ?_
    · rw [va_up_ne _ _ f, va_up_ne _ _ d, ez j a b]
    · rw [va_up_ne _ _ (by omega), va_up_ne _ _ (by omega), z0, pk_un a]
    · rw [va_up_ne _ _ (by omega), va_up_ne _ _ (by omega), z0, pk_us, va_up_ne _ _ (by omega), va_up_self, pk_us]
    · rw [va_up_ne _ _ (by omega), va_up_self, pk_un (by omega), pk_us]
    · rw [va_up_ne _ _ (by omega), va_up_self, pk_un e, pk_un d, pk_un a, ez 199 (by omega) (by omega)]
    · rw [va_up_ne _ _ (by omega), va_up_ne _ _ (by omega), ez 201 (by omega) (by omega), lv_up (by omega), lv_up (by omega)]
      exact LSx_peq hl zl (fun _ _ _ => rfl)
    · rw [lv_up (by omega), lv_up (by omega)]
      exact LI_peq (hi.mono (by omega) (by omega)) zl
    · rw [va_up_ne _ _ (by omega), va_up_ne _ _ (by omega), ez 201 (by omega) (by omega)]
    · rw [va_up_ne (k := 206) _ _ (by omega), va_up_ne (k := 199) (j := 79) _ _ (by omega), ez 79 (by omega) (by omega), va_up_ne (k := 206) (j := 199) _ _ (by omega), va_up_self, pk_un (by omega), pk_un (by omega), pk_un (by omega), ez 199 (by omega) (by omega), va_up_ne (k := 206) (j := 208) _ _ (by omega), va_up_ne (k := 199) (j := 208) _ _ (by omega), ez 208 (by omega) (by omega)]
      exact WPs_mono (WPs_lz h.past (fun old j => lv_eq (fun k a b => by
        have := slot_ge old j
        rw [va_up_ne _ _ (by omega), va_up_ne _ _ (by omega), ez k (by omega) (by omega)]))) (by omega) (by omega)
  · obtain ⟨z, hz⟩ : ∃ z, ringS (lv X 61 5) P = some z := by
      cases hz : ringS (lv X 61 5) P with
      | none =>
        rw [strk_none hz] at q
        exact absurd q (Nat.lt_irrefl 0)
      | some z => exact ⟨z, rfl⟩
    refine ⟨rfl, rfl, _, rfl, ⟨_, _, rfl⟩, ?_⟩
    generalize hZ : strX X P g = Z
    have z0 : Z 0 = upd (X 0) 17 (strk P 64 (lv X 61 5) 0 0).2.1 := by rw [← hZ, strX_0]
    have ez : ∀ j, ¬ j = 0 → (j < 61 ∨ 78 < j) → Z j = X j := fun j a b => by rw [← hZ, strX_at a b]
    have zl : PEQ (lv Z 61) (stkL P (lv X 61)) := by
      rw [← hZ]
      exact (PEQ_leq strX_61).tr st_peq
    have z70 : LEQ (lv Z 70) (cpyL (lv X 70) (lv X 61)) := by rw [← hZ]; exact strX_70
    have zs : ∀ j, lv Z (slot old j) = lv X (slot old j) := fun j => lv_eq (fun k a b => by
      have := slot_ge old j
      exact ez k (by omega) (by omega))
    have hU' : US (Z 208) m (fun j => lv Z (slot old j)) := by
      rw [ez 208 (by omega) (by omega), show (fun j => lv Z (slot old j)) = (fun j => lv X (slot old j)) from funext zs]
      exact hU
    have pz : ∀ j, j < 79 ∨ 152 < j → pushX Z old m 70 j = Z j := fun j a => pushX_at a
    have pl : lv (pushX Z old m 70) 61 = lv Z 61 := lv_pushX (Or.inl rfl)
    have c47 : cv (pushX Z old m 70) 47 = cv X 47 := by
      rw [cv_pushX]
      exact cv_eq (fun k a b => ez k (by omega) (by omega))
    refine rstrike_wp (d := 56) (l := lv X 61) (k := cv X 47) (P := P) (S := S) (m := m) (ls := fun j => lv Z (slot old j)) (by rw [pz 201 (by omega), ez 201 (by omega) (by omega)]; exact hl) (by rw [pz 201 (by omega), ez 201 (by omega) (by omega)]; exact hk) hq (by rw [pz 208 (by omega)]; exact hU') (by rw [pz 199 (by omega), ez 199 (by omega) (by omega)]; exact e3) (fun hno => absurd hz (by rw [hno]; intro q; cases q)) (fun z2 hz2 s' u' g' g1 g2 g3 f' g4 g5 g6 g7 g8 => ?_)
    refine ⟨rfl, rfl, rfl, _, _, rfl, ?_⟩
    have hg := pt_ge old m
    have ew : ∀ j, ¬ j = 199 → ¬ j = 201 → ¬ j = 206 → ¬ j = 208 → va_up (va_up (va_up (va_up (pushX Z old m 70) 199 f') 201 s') 206 g') 208 u' j = pushX Z old m 70 j := fun j a b c d => by
      rw [va_up_ne _ _ d, va_up_ne _ _ c, va_up_ne _ _ b, va_up_ne _ _ a]
    generalize hV : va_up (va_up (va_up (va_up (pushX Z old m 70) 199 f') 201 s') 206 g') 208 u' = V at ew ⊢
    have v199 : V 199 = f' := by rw [← hV, va_up_ne _ _ (by omega), va_up_ne _ _ (by omega), va_up_ne _ _ (by omega), va_up_self]
    have v201 : V 201 = s' := by rw [← hV, va_up_ne _ _ (by omega), va_up_ne _ _ (by omega), va_up_self]
    have v208 : V 208 = u' := by rw [← hV, va_up_self]
    have vl : PEQ (lv V 61) (stkL P (lv X 61)) := by
      rw [lv_eq (X := pushX Z old m 70) (fun k a b => ew k (by omega) (by omega) (by omega) (by omega)), pl]
      exact zl
    have hw := WPs_push (X := Z) (X' := V) (o := 70) (B := BN (n + 1)) (T := TN' (n + 1)) (l := lv X 61) (u' := u') hold hm g3 (fun j hj => by rw [zs j]; exact (hLI j hj).mono (by omega) (by omega)) (fun s q => LSx_cg (LSx_cpy q) z70.symm) (LI_peq (LI_cp _ (hi.mono (by omega) (by omega))) (PEQ_leq z70)) (fun j a b => ew j (by omega) (by omega) (by omega) (by omega))
    refine str_fin (v := g) hn h (fun j a b c d e f g => ?_) (fun j a => ?_) ?_ ?_ (fun j a b c d e => ?_) ?_ ?_ (fun i hi => ?_) ?_
    · rw [ew j d e f g, pz j c, ez j a b]
    · rw [ew 0 (by omega) (by omega) (by omega) (by omega), pz 0 (by omega), z0, pk_un a]
    · rw [ew 0 (by omega) (by omega) (by omega) (by omega), pz 0 (by omega), z0, pk_us, v199, g7]
    · rw [v199, g6]
    · rw [v199, g8 j a b c d e, pz 199 (by omega), ez 199 (by omega) (by omega)]
    · rw [v201]
      exact LSx_peq g1 vl (fun _ _ _ => rfl)
    · exact LI_peq (hst.mono (by omega) (by omega)) vl
    · rw [v201, g2 i hi, pz 201 (by omega), ez 201 (by omega) (by omega)]
    · rw [v199, g5, v208]
      exact hw
end STH
