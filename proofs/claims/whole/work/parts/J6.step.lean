/-! CLASS AND REFERENCE: HEAR, TELL, DAYS -/
section STF
variable {G : ai_G} {sl n P S B T B' T' : Nat} {X X' : mX} {Y Y' : mY} {l l' k k' : Nat → Nat → Int32} {s s' : Nat → Int32}
theorem inI_nI {a b c : Nat} (h1 : a ≤ c) (h2 : c ≤ b) (hb : b < 2 ^ 31) : inI (nI a) (nI b) (nI c) = true := by
  unfold inI
  rw [decide_eq_true_eq]
  exact ⟨(nI_leI (by omega) (by omega)).mpr h1, (nI_leI (by omega) (by omega)).mpr h2⟩
theorem whyR_nat {a b c : Nat} (hP : P ≤ 8) (ha : a < P) (hb : b < P) (hc1 : 1 ≤ c) (hc : c ≤ 24) : whyR P l k (nI a) (nI b) (nI c) = whyI l k a b (nI c) := by
  unfold whyR okH
  rw [pI_nI ha (by omega), pI_nI hb (by omega), show inI 1 24 (nI c) = true from inI_nI (a := 1) (b := 24) hc1 hc (by omega), iN_nI (by omega), iN_nI (by omega)]
  rfl
theorem tellW_nat {a b c : Nat} (hP : P ≤ 8) (hS : S ≤ 8) (ha : a < P) (hb : b < P) (hc : c < S) : tellW P S l (nI a) (nI b) (nI c) = tellI l a b c := by
  unfold tellW okT
  rw [pI_nI ha (by omega), pI_nI hb (by omega), pI_nI hc (by omega), iN_nI (by omega), iN_nI (by omega), iN_nI (by omega)]
  rfl
/-- the past, opened -/
theorem WW.past (h : WW n X Y) : WPs (BN n) (TN' n) (X 79 1) (X 79 2) (X 199 28) (X 208) (fun o => lv X o) := h.2.2.2.2.2.2.2.2.2.2.2.2
theorem BN_ok (hn : n ≤ 512) : BN n + 13000 = BN (n + 1) ∧ BN n < 2 ^ 26 - 20000 ∧ TN' n + 30 = TN' (n + 1) ∧ TN' n < 16000000 := by
  unfold BN TN'
  omega
theorem act_fin {old m : Nat} {L : Nat → Nat → Int32} (h : WW n X Y) (hold : old < 8) (hm : m ≤ 8) (hLI : ∀ j, j < m → LI (lv X (slot old j)) (BN n) (TN' n)) (hL : LI L (BN (n + 1)) (TN' (n + 1))) (hc : ∀ j, ¬ j = 199 → ¬ j = 201 → ¬ j = 208 → X' j = plv (pushX X old m 61) 61 L j) (hs : LSx (X' 201) L) (hs2 : ∀ i, i < 132 ∨ 257 ≤ i → X' 201 i = X 201 i) (hu : US (X' 208) (pushN m) (pushL m (fun j => lv X (slot old j)) (lv X 61))) (hf28 : X' 199 28 = nI (pushN m)) (hf : ∀ j, ¬ j = 0 → ¬ j = 28 → ¬ j = 50 → X' 199 j = X 199 j) : WW (n + 1) X' Y := by
  have hg := pt_ge old m
  have e : ∀ j, j < 61 ∨ (69 < j ∧ j < 79) ∨ 152 < j → ¬ j = 199 → ¬ j = 201 → ¬ j = 208 → X' j = X j := fun j a b c d => by
    rw [hc j b c d, plv_out (by omega), pushX_at (by omega)]
  have hB : BN n ≤ BN (n + 1) := by unfold BN; omega
  have hT : TN' n ≤ TN' (n + 1) := by unfold TN'; omega
  have hl61 : LEQ (lv X' 61) L := by
    rw [lv_eq (X := plv (pushX X old m 61) 61 L) (fun k a b => hc k (by omega) (by omega) (by omega))]
    exact LEQ_plv _
  have hp := PLr_act (B' := BN (n + 1)) (T' := TN' (n + 1)) h.now (LSx_cg hs hl61.symm) (LI_peq hL (PEQ_leq hl61)) hs2
  obtain ⟨P, S, nm, -, -, -, hli, -, -⟩ := h.now
  have hw := WPs_push (X := X) (X' := X') (o := 61) (B := BN (n + 1)) (T := TN' (n + 1)) hold hm hu (fun j hj => (hLI j hj).mono hB hT) (fun s q => q) (hli.mono hB hT) (fun j a b => by rw [hc j (by omega) (by omega) (by omega), plv_out (by omega)])
  obtain ⟨h1, h2, h3, -, -, -, -, h8, -⟩ := id h
  refine WW_gen (X' := X') (Y' := Y) h (fun k hk => ?_) (fun j hj => ?_) ?_ (fun _ _ => rfl) ?_ ?_ ?_ ?_ ?_ ?_
  · unfold ck at hk
    exact e k (by omega) (by omega) (by omega) (by omega)
  · unfold ckf at hj
    exact hf j (by omega) (by omega) (by omega)
  · rw [e 0 (by omega) (by omega) (by omega) (by omega)]
  · rw [e 0 (by omega) (by omega) (by omega) (by omega), e 1 (by omega) (by omega) (by omega) (by omega), e 200 (by omega) (by omega) (by omega) (by omega), hf 2 (by omega) (by omega) (by omega)]
    exact h1
  · rw [e 0 (by omega) (by omega) (by omega) (by omega), hf 15 (by omega) (by omega) (by omega)]
    exact h2
  · rw [e 0 (by omega) (by omega) (by omega) (by omega), hf 29 (by omega) (by omega) (by omega), hf 30 (by omega) (by omega) (by omega)]
    exact h3
  · rw [e 30 (by omega) (by omega) (by omega) (by omega), hf 54 (by omega) (by omega) (by omega), e 224 (by omega) (by omega) (by omega) (by omega)]
    exact h8
  · rw [cv_eq (X := X) (X' := X') (c := 47) (fun k a b => e k (by omega) (by omega) (by omega) (by omega)), e 56 (by omega) (by omega) (by omega) (by omega), e 57 (by omega) (by omega) (by omega) (by omega), e 58 (by omega) (by omega) (by omega) (by omega), e 59 (by omega) (by omega) (by omega) (by omega)]
    exact hp
  · rw [hf28]
    exact hw
/-- the memory behind an act of the class: what the reference sees -/
theorem act_at {old m j : Nat} {L : Nat → Nat → Int32} (h : 152 < j) : plv (pushX X old m 61) 61 L j = X j := by
  rw [plv_out (by omega), pushX_at (by omega)]
theorem up3_at {j : Nat} {f g u : Nat → Int32} (a : ¬ j = 199) (b : ¬ j = 201) (c : ¬ j = 208) : va_up (va_up (va_up X 199 f) 201 g) 208 u j = X j := by
  rw [va_up_ne _ _ (by omega), va_up_ne _ _ (by omega), va_up_ne _ _ (by omega)]
theorem s_hear {x y z : Int32} (hG : G.1 = false) (hn : n ≤ 512) (h : WW n X Y) : PO G sl n 70 219 [some (.ref 0), some (.int x), some (.int y), some (.int z), none] [some (.ref 199), some (.int x), some (.int y), some (.int z), none] X Y := by
  obtain ⟨P, S, nm, hk, hc, hl, hi, hnm, hs⟩ := h.now
  obtain ⟨old, m, hold, hm, e1, e2, e3, hU, hLI⟩ := h.past
  obtain ⟨⟨g, hg, hgk⟩, -⟩ := hc
  obtain ⟨b1, b2, b3, b4⟩ := BN_ok hn
  have hP := hk.1
  unfold PO
  refine thear_wp (d := 57) hG hk.1 hk.2.2.1 e1 e2 hold hm (fun q => ?_) (fun a b c qx qy qz ha hb hc1 hc2 hw => ?_)
  · refine ⟨rfl, rfl, _, rfl, ⟨_, _, rfl⟩, ?_⟩
    refine hear_wp (d := 57) hl hk hg hgk hU e3 (fun _ => fin_tz h) (fun a b c qx qy qz ha hb hc1 hc2 hw => ?_)
    subst qx qy qz
    rw [whyR_nat hP ha hb hc1 hc2] at q
    exact absurd hw q
  · subst qx qy qz
    refine ⟨rfl, rfl, _, rfl, ⟨_, _, rfl⟩, ?_⟩
    refine hear_wp (d := 57) (l := lv X 61) (k := cv X 47) (P := P) (S := S) (m := m) (ls := fun j => lv X (slot old j)) (by rw [act_at (by omega)]; exact hl) (by rw [act_at (by omega)]; exact hk) hg hgk (by rw [act_at (by omega)]; exact hU) (by rw [act_at (by omega)]; exact e3) (fun q => ?_) (fun a' b' c' qx qy qz ha' hb' hc1' hc2' hw' s' u' g1 g2 g3 => ?_)
    · rw [whyR_nat hP ha hb hc1 hc2] at q
      exact absurd hw q
    · have ea : a = a' := (nI_eq (by omega) (by omega)).mp qx
      have eb : b = b' := (nI_eq (by omega) (by omega)).mp qy
      have ec : c = c' := (nI_eq (by omega) (by omega)).mp qz
      subst ea eb ec
      refine ⟨rfl, rfl, rfl, _, _, rfl, ?_⟩
      refine act_fin (L := hearL (lv X 61) (cv X 47) a b (nI c)) h hold hm hLI ((LI_hear hi (by omega) hg hgk (by omega) (by omega) hc2 hw).mono (by omega) (by omega)) (fun j q1 q2 q3 => up3_at q1 q2 q3) ?_ (fun i q => ?_) ?_ ?_ (fun j q1 q2 q3 => ?_)
      · rw [va_up_ne _ _ (by omega), va_up_self]; exact g1
      · rw [va_up_ne _ _ (by omega), va_up_self, g2 i q, act_at (by omega)]
      · rw [va_up_self]; exact g3
      · rw [va_up_ne _ _ (by omega), va_up_ne _ _ (by omega), va_up_self, pk_us]
      · rw [va_up_ne _ _ (by omega), va_up_ne _ _ (by omega), va_up_self, pk_un q2, pk_un q1, act_at (by omega)]
theorem s_tell {x y z : Int32} (hG : G.1 = false) (hn : n ≤ 512) (h : WW n X Y) : PO G sl n 76 225 [some (.ref 0), some (.int x), some (.int y), some (.int z), none] [some (.ref 199), some (.int x), some (.int y), some (.int z), none] X Y := by
  obtain ⟨P, S, nm, hk, hc, hl, hi, hnm, hs⟩ := h.now
  obtain ⟨old, m, hold, hm, e1, e2, e3, hU, hLI⟩ := h.past
  obtain ⟨-, -, -, -, c5, c6, -⟩ := hc
  obtain ⟨b1, b2, b3, b4⟩ := BN_ok hn
  have hP := hk.1
  have hS := hk.2.1
  unfold PO
  refine ttell_wp (d := 56) hG hk.1 hk.2.1 hk.2.2.1 hk.2.2.2.1 e1 e2 hold hm (fun q => ?_) (fun a b c qx qy qz ha hb hc hw => ?_)
  · refine ⟨rfl, rfl, _, rfl, ⟨_, _, rfl⟩, ?_⟩
    refine tell_wp (d := 57) hl hk hU e3 (fun _ => fin_tz h) (fun a b c qx qy qz ha hb hc hw => ?_)
    subst qx qy qz
    rw [tellW_nat hP hS ha hb hc] at q
    exact absurd hw q
  · subst qx qy qz
    refine ⟨rfl, rfl, _, rfl, ⟨_, _, rfl⟩, ?_⟩
    refine tell_wp (d := 57) (l := lv X 61) (k := cv X 47) (P := P) (S := S) (m := m) (ls := fun j => lv X (slot old j)) (by rw [act_at (by omega)]; exact hl) (by rw [act_at (by omega)]; exact hk) (by rw [act_at (by omega)]; exact hU) (by rw [act_at (by omega)]; exact e3) (fun q => ?_) (fun a' b' c' qx qy qz ha' hb' hc' hw' s' u' g1 g2 g3 => ?_)
    · rw [tellW_nat hP hS ha hb hc] at q
      exact absurd hw q
    · have ea : a = a' := (nI_eq (by omega) (by omega)).mp qx
      have eb : b = b' := (nI_eq (by omega) (by omega)).mp qy
      have ec : c = c' := (nI_eq (by omega) (by omega)).mp qz
      subst ea eb ec
      obtain ⟨w, hw2, ew⟩ := c5 c hc
      obtain ⟨f, hf2, ef⟩ := c6 c hc
      refine ⟨rfl, rfl, rfl, _, _, rfl, ?_⟩
      refine act_fin (L := tellL (lv X 61) (cv X 47) a b c) h hold hm hLI ((LI_tell hi (by omega) (by omega) hw2 hf2 ew ef (by omega) (by omega) (by omega)).mono (by omega) (by omega)) (fun j q1 q2 q3 => up3_at q1 q2 q3) ?_ (fun i q => ?_) ?_ ?_ (fun j q1 q2 q3 => ?_)
      · rw [va_up_ne _ _ (by omega), va_up_self]; exact g1
      · rw [va_up_ne _ _ (by omega), va_up_self, g2 i q, act_at (by omega)]
      · rw [va_up_self]; exact g3
      · rw [va_up_ne _ _ (by omega), va_up_ne _ _ (by omega), va_up_self, pk_us]
      · rw [va_up_ne _ _ (by omega), va_up_ne _ _ (by omega), va_up_self, pk_un q2, pk_un q1, act_at (by omega)]
theorem s_days {x : Int32} (hG : G.1 = false) (hn : n ≤ 512) (h : WW n X Y) : PO G sl n 83 229 [some (.ref 0), some (.int x)] [some (.ref 199), some (.int x), none] X Y := by
  obtain ⟨P, S, nm, hk, hc, hl, hi, hnm, hs⟩ := h.now
  obtain ⟨old, m, hold, hm, e1, e2, e3, hU, hLI⟩ := h.past
  obtain ⟨-, -, c3, c4, -⟩ := hc
  obtain ⟨b1, b2, b3, b4⟩ := BN_ok hn
  have hP := hk.1
  unfold PO
  refine tdays_wp (d := 55) hG hk.1 hk.2.2.1 e1 e2 hold hm (fun q => ?_) (fun c qx hc1 hc2 hw => ?_)
  · refine ⟨rfl, rfl, _, rfl, ⟨_, _, rfl⟩, ?_⟩
    refine days_wp (d := 57) hl hk hU e3 (fun _ => fin_tz h) (fun c qx hc1 hc2 hw => ?_)
    rw [q] at hw
    exact absurd hw (by decide)
  · subst qx
    refine ⟨rfl, rfl, _, rfl, ⟨_, _, rfl⟩, ?_⟩
    refine days_wp (d := 57) (l := lv X 61) (k := cv X 47) (P := P) (S := S) (m := m) (ls := fun j => lv X (slot old j)) (by rw [act_at (by omega)]; exact hl) (by rw [act_at (by omega)]; exact hk) (by rw [act_at (by omega)]; exact hU) (by rw [act_at (by omega)]; exact e3) (fun q => ?_) (fun c' qx hc1' hc2' hw' s' u' g1 g2 g3 => ?_)
    · rw [q] at hw
      exact absurd hw (by decide)
    · have ec : c = c' := (nI_eq (by omega) (by omega)).mp qx
      subst ec
      refine ⟨rfl, rfl, rfl, _, _, rfl, ?_⟩
      refine act_fin (L := daysR (cv X 47) P c (lv X 61)) h hold hm hLI ((LI_days c (lv X 61) hP hi c3 c4).mono (by omega) (by omega)) (fun j q1 q2 q3 => up3_at q1 q2 q3) ?_ (fun i q => ?_) ?_ ?_ (fun j q1 q2 q3 => ?_)
      · rw [va_up_ne _ _ (by omega), va_up_self]; exact g1
      · rw [va_up_ne _ _ (by omega), va_up_self, g2 i q, act_at (by omega)]
      · rw [va_up_self]; exact g3
      · rw [va_up_ne _ _ (by omega), va_up_ne _ _ (by omega), va_up_self, pk_us]
      · rw [va_up_ne _ _ (by omega), va_up_ne _ _ (by omega), va_up_self, pk_un q2, pk_un q1, act_at (by omega)]
end STF
