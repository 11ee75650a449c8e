/-! CLASS AND REFERENCE: RING, HOUR, PRICES, TALKED -/
section STI
variable {G : ai_G} {sl n P S B T B' T' : Nat} {X X' : mX} {Y Y' : mY} {l l' k k' : Nat → Nat → Int32} {s s' : Nat → Int32}
/-- the cells of the rest -/
def dk (k : Nat) : Prop := k = 1 ∨ k = 30 ∨ k = 200 ∨ k = 224 ∨ pcl k
theorem WW_sml (h : WW n X Y) (hc : ∀ k, dk k → X' k = X k) (h0 : ∀ j, ¬ j = 14 → ¬ j = 15 → X' 0 j = X 0 j) (hf : ∀ j, j = 15 ∨ j = 28 ∨ j = 29 ∨ j = 30 ∨ j = 54 → X' 199 j = X 199 j) (hT : WTp (X' 0 15) (X' 199 2) (X' 1) (X' 200)) (hR : WRg (X' 0 14) (X' 199 24) (X' 46) (X' 207)) (hH : WHr (X' 35 3) (X' 199 34) (X' 37) (X' 212)) (hM : WMk (X' 38 3) (X' 199 38) (X' 39) (X' 213) (X' 40) (X' 214)) (hK : WTk (X' 42 3) (X' 42 4) (X' 45) (X' 199 44) (X' 221) (X' 222) (X' 223)) : WW (n + 1) X' Y := by
  obtain ⟨p1, p2, p3, p4⟩ := WW_places (X' := X') (Y' := Y) h (fun k hk => hc k (Or.inr (Or.inr (Or.inr (Or.inr hk))))) (hf 28 (by omega)) (fun _ _ => rfl)
  obtain ⟨-, h2, h3, -, -, -, -, h8, h9, -⟩ := h
  refine WW_mono ⟨hT, ?_, ?_, hR, hH, hM, hK, ?_, h9, p1, p2, p3, p4⟩
  · rw [h0 16 (by omega) (by omega), hf 15 (by omega)]
    exact h2
  · rw [h0 17 (by omega) (by omega), hf 29 (by omega), hf 30 (by omega)]
    exact h3
  · rw [hc 30 (Or.inr (Or.inl rfl)), hf 54 (by omega), hc 224 (Or.inr (Or.inr (Or.inr (Or.inl rfl))))]
    exact h8
theorem dk_ne {k : Nat} (h : dk k) : ¬ k = 0 ∧ ¬ k = 199 ∧ ¬ (35 ≤ k ∧ k ≤ 46) ∧ ¬ k = 69 ∧ ¬ (202 ≤ k ∧ k ≤ 207) ∧ ¬ (209 ≤ k ∧ k ≤ 223) ∧ ¬ k = 225 ∧ ¬ k = 226 := by
  unfold dk pcl at h
  omega
theorem RW_eq {f g : Nat → Int32} {z : List Nat} (hf : RW f z) (hg : RW g z) : ∀ i, i < z.length → f i = g i := fun i hi => by
  rw [RW_at hf i hi, RW_at hg i hi]
theorem s_ring (hG : G.1 = false) (hn : n ≤ 512) (h : WW n X Y) : PO G sl n 96 210 [some (.ref 0)] [some (.ref 199), none] X Y := by
  obtain ⟨P, S, nm, hk, hc, hl, hi, hnm, hs⟩ := h.now
  obtain ⟨b1, b2, b3, b4⟩ := BN_ok hn
  have hP := hk.1
  have hlen : ∀ z, ringS (X 66) P = some z → z.length ≤ 8 := fun z hz => by
    have := (ringS_ok hz).2.1
    omega
  unfold PO
  refine tring_wp (d := 50) hG hP hk.2.2.1 (fun g' q1 => ?_)
  refine ⟨rfl, rfl, _, rfl, ⟨_, _, rfl⟩, ?_⟩
  generalize hZ : va_up (va_up (va_up X 0 (upd (X 0) 14 (nI (rlen (ringS (X 66) P))))) 46 (va_cpy g' (X 46) 0 0 8)) 69 g' = Z
  have ez : ∀ j, ¬ j = 0 → ¬ j = 46 → ¬ j = 69 → Z j = X j := fun j a b c => by rw [← hZ, va_up_ne _ _ c, va_up_ne _ _ b, va_up_ne _ _ a]
  have z0 : Z 0 = upd (X 0) 14 (nI (rlen (ringS (X 66) P))) := by rw [← hZ, va_up_ne _ _ (by omega), va_up_ne _ _ (by omega), va_up_self]
  have z46 : Z 46 = va_cpy g' (X 46) 0 0 8 := by rw [← hZ, va_up_ne _ _ (by omega), va_up_self]
  refine rring_wp (d := 57) (P := P) (f := X 66) hP (by rw [ez 201 (by omega) (by omega) (by omega)]; exact hk.2.2.2.2.1) (fun a b ha hb => ?_) (fun i hi2 => ?_) (fun g g2 q2 => ?_)
  · rw [ez 201 (by omega) (by omega) (by omega)]
    have := hl.1.2.2.2.2.2.2.2.2.2.1 (8 * a + b) (by omega)
    rw [← Nat.add_assoc] at this
    rw [this, Nat.mul_comm 8 a]
    rfl
  · obtain ⟨v, hv, ev⟩ := hi.1 i hi2
    exact ⟨v, by omega, ev⟩
  · refine ⟨rfl, rfl, rfl, _, _, rfl, ?_⟩
    generalize hV : va_up (va_up (va_up Z 199 (upd (upd (Z 199) 0 0) 24 (nI (rlen (ringS (X 66) P))))) 206 g) 207 g2 = V
    have v199 : V 199 = upd (upd (X 199) 0 0) 24 (nI (rlen (ringS (X 66) P))) := by rw [← hV, va_up_ne _ _ (by omega), va_up_ne _ _ (by omega), va_up_self, ez 199 (by omega) (by omega) (by omega)]
    have v207 : V 207 = g2 := by rw [← hV, va_up_self]
    have ev : ∀ j, ¬ j = 0 → ¬ j = 46 → ¬ j = 69 → ¬ j = 199 → ¬ j = 206 → ¬ j = 207 → V j = X j := fun j a b c d e f => by rw [← hV, va_up_ne _ _ f, va_up_ne _ _ e, va_up_ne _ _ d, ez j a b c]
    have v0 : V 0 = upd (X 0) 14 (nI (rlen (ringS (X 66) P))) := by rw [← hV, va_up_ne _ _ (by omega), va_up_ne _ _ (by omega), va_up_ne _ _ (by omega), z0]
    have v46 : V 46 = va_cpy g' (X 46) 0 0 8 := by rw [← hV, va_up_ne _ _ (by omega), va_up_ne _ _ (by omega), va_up_ne _ _ (by omega), z46]
    have h1 := h.1
    have h5 := h.2.2.2.2.1
    have h6 := h.2.2.2.2.2.1
    have h7 := h.2.2.2.2.2.2.1
    refine WW_sml h (fun k hk => ?_) (fun j a b => ?_) (fun j a => ?_) ?_ ?_ ?_ ?_ ?_
    · have := dk_ne hk
      exact ev k (by omega) (by omega) (by omega) (by omega) (by omega) (by omega)
    · rw [v0, pk_un a]
    · rw [v199, pk_un (by omega), pk_un (by omega)]
    · rw [v0, pk_un (by omega), v199, pk_un (by omega), pk_un (by omega), ev 1 (by omega) (by omega) (by omega) (by omega) (by omega) (by omega), ev 200 (by omega) (by omega) (by omega) (by omega) (by omega) (by omega)]
      exact h1
    · rw [v0, pk_us, v199, pk_us, v46, v207]
      cases hz : ringS (X 66) P with
      | none => exact ⟨0, by omega, rfl, rfl, fun i hi => absurd hi (by omega)⟩
      | some z =>
        have hz8 := hlen z hz
        refine ⟨z.length, hz8, rfl, rfl, fun i hi => ?_⟩
        obtain ⟨r1, r2⟩ := q2 z hz
        rw [r2 i hi, cpy_in _ _ _ (by omega)]
        exact RW_eq (q1 z hz) r1 i hi
    · rw [ev 35 (by omega) (by omega) (by omega) (by omega) (by omega) (by omega), v199, pk_un (by omega), pk_un (by omega), ev 37 (by omega) (by omega) (by omega) (by omega) (by omega) (by omega), ev 212 (by omega) (by omega) (by omega) (by omega) (by omega) (by omega)]
      exact h5
    · rw [ev 38 (by omega) (by omega) (by omega) (by omega) (by omega) (by omega), v199, pk_un (by omega), pk_un (by omega), ev 39 (by omega) (by omega) (by omega) (by omega) (by omega) (by omega), ev 40 (by omega) (by omega) (by omega) (by omega) (by omega) (by omega), ev 213 (by omega) (by omega) (by omega) (by omega) (by omega) (by omega), ev 214 (by omega) (by omega) (by omega) (by omega) (by omega) (by omega)]
      exact h6
    · rw [ev 42 (by omega) (by omega) (by omega) (by omega) (by omega) (by omega), v199, pk_un (by omega), pk_un (by omega), ev 45 (by omega) (by omega) (by omega) (by omega) (by omega) (by omega), ev 221 (by omega) (by omega) (by omega) (by omega) (by omega) (by omega), ev 222 (by omega) (by omega) (by omega) (by omega) (by omega) (by omega), ev 223 (by omega) (by omega) (by omega) (by omega) (by omega) (by omega)]
      exact h7
theorem s_hour (hG : G.1 = false) (h : WW n X Y) : PO G sl n 99 236 [some (.ref 0)] [some (.ref 199), none, none, none, none, none] X Y := by
  obtain ⟨P, S, nm, hk, hc, hl, hi, hnm, hs⟩ := h.now
  have hP := hk.1
  unfold PO
  refine thour_wp (d := 39) hG hP hk.2.2.1 (fun pr0 b0 z1 z2 => ?_)
  refine ⟨rfl, rfl, _, rfl, ⟨_, _, rfl⟩, ?_⟩
  generalize hR : hT (lv X 61) (cv X 47) P 8 0 0 pr0 (b0, mi1) = R
  generalize hZ : hsX (va_up X 35 (upd (X 35) 3 (nI P))) pr0 R.1 R.2 = Z
  have ez : ∀ j, ¬ j = 35 → ¬ j = 36 → ¬ j = 37 → Z j = X j := fun j a b c => by
    rw [← hZ]
    unfold hsX
    rw [va_up_ne _ _ c, va_up_ne _ _ b, va_up_ne _ _ a, va_up_ne _ _ a]
  have z35 : Z 35 3 = nI P := by
    rw [← hZ]
    unfold hsX
    rw [va_up_ne _ _ (by omega), va_up_ne _ _ (by omega), va_up_self, pk_un (by omega), va_up_self, pk_us]
  have z37 : Z 37 = R.1 := by
    rw [← hZ]
    unfold hsX
    rw [va_up_self]
  refine rhour_wp (d := 58) (l := lv X 61) (k := cv X 47) (P := P) (S := S) (pr0 := pr0) (b0 := b0) (by rw [ez 201 (by omega) (by omega) (by omega)]; exact hl.1) (by rw [ez 201 (by omega) (by omega) (by omega)]; exact hk) z1 (fun V g1 g2 g3 g4 g5 => ?_)
  rw [hR] at g5 ⊢
  refine ⟨rfl, rfl, rfl, _, _, rfl, ?_⟩
  have ev : ∀ j, ¬ j = 35 → ¬ j = 36 → ¬ j = 37 → ¬ j = 199 → ¬ j = 210 → ¬ j = 211 → ¬ j = 212 → V j = X j := fun j a b c d e f g => by rw [g1 j d e f g, ez j a b c]
  have f199 : ∀ j, ¬ j = 0 → ¬ j = 34 → V 199 j = X 199 j := fun j a b => by rw [g2 j a b, ez 199 (by omega) (by omega) (by omega)]
  obtain ⟨h1, h2, h3, h4, h5, h6, h7, -⟩ := id h
  refine WW_sml h (fun k hk => ?_) (fun j a b => ?_) (fun j a => ?_) ?_ ?_ ?_ ?_ ?_
  · have := dk_ne hk
    exact ev k (by omega) (by omega) (by omega) (by omega) (by omega) (by omega) (by omega)
  · rw [ev 0 (by omega) (by omega) (by omega) (by omega) (by omega) (by omega) (by omega)]
  · exact f199 j (by omega) (by omega)
  · rw [ev 0 (by omega) (by omega) (by omega) (by omega) (by omega) (by omega) (by omega), f199 2 (by omega) (by omega), ev 1 (by omega) (by omega) (by omega) (by omega) (by omega) (by omega) (by omega), ev 200 (by omega) (by omega) (by omega) (by omega) (by omega) (by omega) (by omega)]
    exact h1
  · rw [ev 0 (by omega) (by omega) (by omega) (by omega) (by omega) (by omega) (by omega), f199 24 (by omega) (by omega), ev 46 (by omega) (by omega) (by omega) (by omega) (by omega) (by omega) (by omega), ev 207 (by omega) (by omega) (by omega) (by omega) (by omega) (by omega) (by omega)]
    exact h4
  · refine ⟨P, ⟨hP, Or.inl ?_⟩, ⟨hP, Or.inl g3⟩, fun q hq => ?_⟩
    · rw [g1 35 (by omega) (by omega) (by omega) (by omega)]
      exact z35
    · rw [g1 37 (by omega) (by omega) (by omega) (by omega), z37, g5 q hq]
  · rw [ev 38 (by omega) (by omega) (by omega) (by omega) (by omega) (by omega) (by omega), f199 38 (by omega) (by omega), ev 39 (by omega) (by omega) (by omega) (by omega) (by omega) (by omega) (by omega), ev 40 (by omega) (by omega) (by omega) (by omega) (by omega) (by omega) (by omega), ev 213 (by omega) (by omega) (by omega) (by omega) (by omega) (by omega) (by omega), ev 214 (by omega) (by omega) (by omega) (by omega) (by omega) (by omega) (by omega)]
    exact h6
  · rw [ev 42 (by omega) (by omega) (by omega) (by omega) (by omega) (by omega) (by omega), f199 44 (by omega) (by omega), ev 45 (by omega) (by omega) (by omega) (by omega) (by omega) (by omega) (by omega), ev 221 (by omega) (by omega) (by omega) (by omega) (by omega) (by omega) (by omega), ev 222 (by omega) (by omega) (by omega) (by omega) (by omega) (by omega) (by omega), ev 223 (by omega) (by omega) (by omega) (by omega) (by omega) (by omega) (by omega)]
    exact h7
theorem s_prices {x : Int32} (h : WW n X Y) : PO G sl n 105 242 [some (.ref 0), some (.int x)] [some (.ref 199), some (.int x), none, none, none, none, none] X Y := by
  obtain ⟨P, S, nm, hk, hc, hl, hi, hnm, hs⟩ := h.now
  have hP := hk.1
  unfold PO
  refine prices_wp (d := 57) (P := P) (k := cv X 47) (l := lv X 61) hP hk.2.2.1 (fun _ _ => rfl) (fun _ _ => rfl) (fun q => ?_) (fun q p2 w2 h2 q1 q2 => ?_)
  · refine ⟨rfl, rfl, _, rfl, ⟨_, _, rfl⟩, ?_⟩
    refine rprices_wp (d := 59) (l := lv X 61) (k := cv X 47) (P := P) (S := S) hl.1 hk (fun _ => fin_tz h) (fun q3 => absurd q3 (by rw [q]; decide))
  · refine ⟨rfl, rfl, _, rfl, ⟨_, _, rfl⟩, ?_⟩
    generalize hZ : prX (va_up X 38 (upd (X 38) 3 (nI P))) p2 w2 h2 = Z
    have ez : ∀ j, (j < 38 ∨ 41 < j) → Z j = X j := fun j a => by
      rw [← hZ]
      unfold prX
      rw [va_up_ne _ _ (by omega), va_up_ne _ _ (by omega), va_up_ne _ _ (by omega), va_up_ne _ _ (by omega)]
    have z38 : Z 38 3 = nI P := by
      rw [← hZ]
      unfold prX
      rw [va_up_ne _ _ (by omega), va_up_ne _ _ (by omega), va_up_ne _ _ (by omega), va_up_self, pk_us]
    have z39 : Z 39 = p2 := by
      rw [← hZ]
      unfold prX
      rw [va_up_ne _ _ (by omega), va_up_ne _ _ (by omega), va_up_self]
    have z40 : Z 40 = w2 := by
      rw [← hZ]
      unfold prX
      rw [va_up_ne _ _ (by omega), va_up_self]
    refine rprices_wp (d := 59) (l := lv X 61) (k := cv X 47) (P := P) (S := S) (by rw [ez 201 (by omega)]; exact hl.1) (by rw [ez 201 (by omega)]; exact hk) (fun q3 => absurd q (by rw [q3]; decide)) (fun _ p3 w3 a3 q3 q4 => ?_)
    refine ⟨rfl, rfl, rfl, _, _, rfl, ?_⟩
    generalize hV : rpX (va_up Z 199 (upd (upd (Z 199) 0 0) 38 (nI P))) p3 w3 a3 = V
    have ev : ∀ j, (j < 38 ∨ 41 < j) → ¬ j = 199 → (j < 213 ∨ 215 < j) → V j = X j := fun j a b c => by
      rw [← hV]
      unfold rpX
      rw [va_up_ne _ _ (by omega), va_up_ne _ _ (by omega), va_up_ne _ _ (by omega), va_up_ne _ _ (by omega), ez j a]
    have e38 : ∀ j, 38 ≤ j → j ≤ 41 → V j = Z j := fun j a b => by
      rw [← hV]
      unfold rpX
      rw [va_up_ne _ _ (by omega), va_up_ne _ _ (by omega), va_up_ne _ _ (by omega), va_up_ne _ _ (by omega)]
    have v199 : V 199 = upd (upd (X 199) 0 0) 38 (nI P) := by
      rw [← hV]
      unfold rpX
      rw [va_up_ne _ _ (by omega), va_up_ne _ _ (by omega), va_up_ne _ _ (by omega), va_up_self, ez 199 (by omega)]
    have v213 : V 213 = p3 := by
      rw [← hV]
      unfold rpX
      rw [va_up_ne _ _ (by omega), va_up_ne _ _ (by omega), va_up_self]
    have v214 : V 214 = w3 := by
      rw [← hV]
      unfold rpX
      rw [va_up_ne _ _ (by omega), va_up_self]
    obtain ⟨h1, h2, h3, h4, h5, h6, h7, -⟩ := id h
    refine WW_sml h (fun k hk => ?_) (fun j a b => ?_) (fun j a => ?_) ?_ ?_ ?_ ?_ ?_
    · have := dk_ne hk
      exact ev k (by omega) (by omega) (by omega)
    · rw [ev 0 (by omega) (by omega) (by omega)]
    · rw [v199, pk_un (by omega), pk_un (by omega)]
    · rw [ev 0 (by omega) (by omega) (by omega), v199, pk_un (by omega), pk_un (by omega), ev 1 (by omega) (by omega) (by omega), ev 200 (by omega) (by omega) (by omega)]
      exact h1
    · rw [ev 0 (by omega) (by omega) (by omega), v199, pk_un (by omega), pk_un (by omega), ev 46 (by omega) (by omega) (by omega), ev 207 (by omega) (by omega) (by omega)]
      exact h4
    · rw [ev 35 (by omega) (by omega) (by omega), v199, pk_un (by omega), pk_un (by omega), ev 37 (by omega) (by omega) (by omega), ev 212 (by omega) (by omega) (by omega)]
      exact h5
    · refine ⟨P, ⟨hP, Or.inl ?_⟩, ⟨hP, Or.inl ?_⟩, fun q hq => ⟨?_, ?_⟩⟩
      · rw [e38 38 (by omega) (by omega)]
        exact z38
      · rw [v199, pk_us]
      · rw [e38 39 (by omega) (by omega), z39, v213, q1 q hq, q3 q hq]
      · rw [e38 40 (by omega) (by omega), z40, v214, q2 q hq, q4 q hq]
    · rw [ev 42 (by omega) (by omega) (by omega), v199, pk_un (by omega), pk_un (by omega), ev 45 (by omega) (by omega) (by omega), ev 221 (by omega) (by omega) (by omega), ev 222 (by omega) (by omega) (by omega), ev 223 (by omega) (by omega) (by omega)]
      exact h7
end STI
