/-! WHAT HOLDS OF EVERY LIFE, and how acts keep it -/
section INV
variable {l k : Nat → Nat → Int32} {P S B T : Nat}
def LI (l : Nat → Nat → Int32) (B T : Nat) : Prop := (∀ i, i < 64 → ∃ v, v ≤ B ∧ l 5 i = nI v) ∧ (∀ p, p < 8 → ∃ v, v ≤ 999 ∧ l 1 p = nI v) ∧ (∀ p, p < 8 → ∃ v, v ≤ 24 ∧ l 2 p = nI v) ∧ (∀ i, i < 8 → ∃ v, v ≤ T ∧ l 6 i = nI v) ∧ (∃ v, v < 256 ∧ l 9 0 = nI v)
theorem LI.mono {B' T' : Nat} (h : LI l B T) (hB : B ≤ B') (hT : T ≤ T') : LI l B' T' := by
  obtain ⟨a, b, c, e, f⟩ := h
  refine ⟨fun i hi => ?_, b, c, fun i hi => ?_, f⟩
  · obtain ⟨v, hv, ev⟩ := a i hi; exact ⟨v, by omega, ev⟩
  · obtain ⟨v, hv, ev⟩ := e i hi; exact ⟨v, by omega, ev⟩
theorem dueI_24 {b c g : Nat} (hg : g ≤ 9) (hgk : k 11 0 = nI g) (hc : c ≤ 24) : ∃ e, e ≤ 24 ∧ dueI k (nI b) (nI c) = nI e := by
  unfold dueI
  split
  · exact ⟨0, by omega, rfl⟩
  · rw [hgk, max_nat (by omega) (by omega)]
    exact ⟨c - g, by omega, rfl⟩
theorem oweF_nat {f : Nat → Int32} {a b x : Nat} (hf : ∀ i, i < 64 → ∃ v, v ≤ B ∧ f i = nI v) (ha : a < 8) (hb : b < 8) (hB : B < 2 ^ 29) (hx : x ≤ 1000) : ∀ i, i < 64 → ∃ v, v ≤ B + x ∧ oweF f a b (nI x) i = nI v := by
  intro i hi
  obtain ⟨u, hu, eu⟩ := hf (b * 8 + a) (by omega)
  have em : (if nI u < nI x then nI u else nI x) = nI (min u x) := by
    by_cases c : u < x
    · rw [if_pos (nI_lt c (by omega)), Nat.min_eq_left (by omega)]
    · rw [if_neg (fun q => c ((nI_ltI (by omega) (by omega)).mp q)), Nat.min_eq_right (by omega)]
  have e1 : f (b * 8 + a) - (if f (b * 8 + a) < nI x then f (b * 8 + a) else nI x) = nI (u - min u x) := by rw [eu, em, pk_sub (by omega)]
  have e2 : nI x - (if f (b * 8 + a) < nI x then f (b * 8 + a) else nI x) = nI (x - min u x) := by rw [eu, em, pk_sub (by omega)]
  unfold oweF
  simp only [e1, e2]
  by_cases c1 : i = a * 8 + b
  · subst c1
    rw [pk_us]
    by_cases c2 : a * 8 + b = b * 8 + a
    · rw [c2, pk_us, nI_add]; exact ⟨u - min u x + (x - min u x), by omega, rfl⟩
    · rw [pk_un c2]
      obtain ⟨w, hw, ew⟩ := hf (a * 8 + b) (by omega)
      rw [ew, nI_add]
      exact ⟨w + (x - min u x), by omega, rfl⟩
  · rw [pk_un c1]
    by_cases c2 : i = b * 8 + a
    · subst c2; rw [pk_us]; exact ⟨u - min u x, by omega, rfl⟩
    · rw [pk_un c2]
      obtain ⟨w, hw, ew⟩ := hf i hi
      exact ⟨w, by omega, ew⟩
theorem upd_nat {f : Nat → Int32} {N M a v : Nat} (h : ∀ p, p < N → ∃ u, u ≤ M ∧ f p = nI u) (hv : v ≤ M) : ∀ p, p < N → ∃ u, u ≤ M ∧ upd f a (nI v) p = nI u := by
  intro p hp
  by_cases c : p = a
  · subst c; rw [pk_us]; exact ⟨v, hv, rfl⟩
  · rw [pk_un c]; exact h p hp
theorem whyI_0 {a b c : Nat} {u v : Nat} (h : whyI l k a b (nI c) = 0) (h2 : l 2 a = nI u) (h1 : l 1 b = nI v) (hu : u < 2 ^ 31) (hv : v < 2 ^ 31) (hc : c < 2 ^ 31) : c ≤ u ∧ c ≤ v := by
  unfold whyI at h
  split at h
  · exact absurd h (by decide)
  · split at h
    · exact absurd h (by decide)
    · rename_i q1
      split at h
      · exact absurd h (by decide)
      · rename_i q2
        rw [h2] at q1
        rw [h1] at q2
        rw [nI_ltI hu hc] at q1
        rw [nI_ltI hv hc] at q2
        omega
theorem LI_hear {a b c g : Nat} (h : LI l B T) (hB : B < 2 ^ 29) (hg : g ≤ 9) (hgk : k 11 0 = nI g) (ha : a < 8) (hb : b < 8) (hc : c ≤ 24) (hw : whyI l k a b (nI c) = 0) : LI (hearL l k a b (nI c)) (B + 24) T := by
  obtain ⟨h5, h1, h2, h6, h9⟩ := h
  obtain ⟨u, hu, eu⟩ := h2 a ha
  obtain ⟨v, hv, ev⟩ := h1 b hb
  obtain ⟨q1, q2⟩ := whyI_0 hw eu ev (by omega) (by omega) (by omega)
  obtain ⟨e, he, ee⟩ := dueI_24 (b := b) hg hgk hc
  have r5 : hearL l k a b (nI c) 5 = oweF (l 5) b a (nI e) := by unfold hearL; rw [ee]; simp [vf_upd]
  have r2 : hearL l k a b (nI c) 2 = upd (l 2) a (nI (u - c)) := by
    unfold hearL hearB hearA
    split <;> simp [vf_upd, eu, pk_sub q1]
  have r6 : hearL l k a b (nI c) 6 = l 6 := by
    unfold hearL hearB hearA
    split <;> simp [vf_upd]
  have r9 : hearL l k a b (nI c) 9 = l 9 := by
    unfold hearL hearB hearA
    split <;> simp [vf_upd]
  have r1 : ∀ p, p < 8 → ∃ w, w ≤ 999 ∧ hearL l k a b (nI c) 1 p = nI w := by
    unfold hearL hearB hearA
    split
    · simpa [vf_upd] using h1
    · have := upd_nat (a := b) (v := v - c) h1 (by omega)
      rw [← pk_sub q2, ← ev] at this
      simpa [vf_upd] using this
  refine ⟨?_, r1, ?_, ?_, ?_⟩
  · rw [r5]
    intro i hi
    obtain ⟨w, hw2, ew⟩ := oweF_nat h5 hb ha hB (show e ≤ 1000 by omega) i hi
    exact ⟨w, by omega, ew⟩
  · rw [r2]; exact upd_nat h2 (by omega)
  · rw [r6]; exact h6
  · rw [r9]; exact h9
theorem LI_tell {a b c w f : Nat} (h : LI l B T) (hB : B < 2 ^ 29) (hT : T ≤ 33554431) (hw : w ≤ 99) (hf : f ≤ 9) (e5 : k 5 c = nI w) (e6 : k 6 c = nI f) (ha : a < 8) (hb : b < 8) (hc : c < 8) : LI (tellL l k a b c) (B + 99) (T + 1) := by
  obtain ⟨h5, h1, h2, h6, h9⟩ := h
  obtain ⟨t, ht, et⟩ := h6 c hc
  have ew : worI k c (l 6 c) = nI (w - f * t) := by rw [et]; exact worI_nat hw hf (by omega) e5 e6
  refine ⟨?_, ?_, ?_, ?_, ?_⟩
  · have : tellL l k a b c 5 = oweF (l 5) b a (nI (w - f * t)) := by unfold tellL; rw [ew]; simp [vf_upd]
    rw [this]
    intro i hi
    obtain ⟨q, hq, eq⟩ := oweF_nat (x := w - f * t) h5 hb ha hB (by omega) i hi
    exact ⟨q, by omega, eq⟩
  · simpa [tellL, vf_upd] using h1
  · simpa [tellL, vf_upd] using h2
  · have : tellL l k a b c 6 = upd (l 6) c (nI (t + 1)) := by
      unfold tellL
      simp only [vf_upd]
      rw [et]
      have : nI t + 1 = nI (t + 1) := nI_add t 1
      rw [this]
      simp
    rw [this]
    intro p hp
    by_cases q : p = c
    · subst q; rw [pk_us]; exact ⟨t + 1, by omega, rfl⟩
    · rw [pk_un q]
      obtain ⟨u, hu, eu⟩ := h6 p hp
      exact ⟨u, by omega, eu⟩
  · simpa [tellL, vf_upd] using h9
theorem or_256 : ∀ v, v < 256 → ∀ p, p < 8 → ∃ u, u < 256 ∧ nI v ||| 1 <<< (nI p &&& 31) = nI u := by
  have h : (List.range 256).all (fun v => (List.range 8).all (fun p => nI v ||| 1 <<< (nI p &&& 31) == nI (v ||| 1 <<< p) && decide (v ||| 1 <<< p < 256))) = true := by decide +kernel
  intro v hv p hp
  have := List.all_eq_true.mp (List.all_eq_true.mp h v (List.mem_range.mpr hv)) p (List.mem_range.mpr hp)
  simp only [Bool.and_eq_true, decide_eq_true_eq] at this
  exact ⟨_, this.2, eq_of_beq this.1⟩
theorem LI_dayS {p : Nat} (h : LI l B T) (hp : p < 8) (he : ∃ v, v ≤ 24 ∧ k 1 p = nI v) (hg : ∃ v, v ≤ 9 ∧ k 2 p = nI v) : LI (dayS l k p) B T := by
  obtain ⟨h5, h1, h2, h6, h9⟩ := h
  obtain ⟨ear, hear, eear⟩ := he
  obtain ⟨gr, hgr, egr⟩ := hg
  obtain ⟨u, hu, eu⟩ := h1 p hp
  have em : (if l 1 p + k 2 p < 999 then l 1 p + k 2 p else 999) = nI (min (u + gr) 999) := by
    rw [eu, egr, nI_add, show (999 : Int32) = nI 999 from rfl]
    by_cases c : u + gr < 999
    · rw [if_pos (nI_lt c (by omega)), Nat.min_eq_left (by omega)]
    · rw [if_neg (fun q => c ((nI_ltI (by omega) (by omega)).mp q)), Nat.min_eq_right (by omega)]
  have r9 : ∃ v, v < 256 ∧ dayS l k p 9 0 = nI v := by
    obtain ⟨v, hv, ev⟩ := h9
    unfold dayS dayA
    split
    · simp only [vf_upd]
      rw [ev]
      simpa using or_256 v hv p hp
    · simp only [vf_upd]
      exact ⟨v, hv, by simpa using ev⟩
  refine ⟨?_, ?_, ?_, ?_, r9⟩
  · unfold dayS dayA
    split <;> simpa [vf_upd] using h5
  · have : dayS l k p 1 = upd (l 1) p (nI (min (u + gr) 999)) := by unfold dayS; rw [em]; simp [vf_upd]
    rw [this]
    exact upd_nat h1 (by omega)
  · have : dayS l k p 2 = upd (l 2) p (nI ear) := by unfold dayS; rw [eear]; simp [vf_upd]
    rw [this]
    exact upd_nat h2 hear
  · unfold dayS dayA
    split <;> simpa [vf_upd] using h6
theorem LI_day : ∀ (r p : Nat) (l : Nat → Nat → Int32), p + r = P → P ≤ 8 → LI l B T → (∀ q, q < P → ∃ v, v ≤ 24 ∧ k 1 q = nI v) → (∀ q, q < P → ∃ v, v ≤ 9 ∧ k 2 q = nI v) → LI (dayR k p r l) B T := by
  intro r
  induction r with
  | zero =>
    intro p l hp hP h he hg
    obtain ⟨h5, h1, h2, h6, h9⟩ := h
    unfold dayR
    exact ⟨by simpa [vf_upd] using h5, by simpa [vf_upd] using h1, by simpa [vf_upd] using h2, by simpa [vf_upd] using h6, by simpa [vf_upd] using h9⟩
  | succ r ih =>
    intro p l hp hP h he hg
    unfold dayR
    exact ih _ _ (by omega) hP (LI_dayS h (by omega) (he p (by omega)) (hg p (by omega))) he hg
theorem LI_days : ∀ (r : Nat) (l : Nat → Nat → Int32), P ≤ 8 → LI l B T → (∀ q, q < P → ∃ v, v ≤ 24 ∧ k 1 q = nI v) → (∀ q, q < P → ∃ v, v ≤ 9 ∧ k 2 q = nI v) → LI (daysR k P r l) B T := by
  intro r
  induction r with
  | zero => intro l _ h _ _; exact h
  | succ r ih => intro l hP h he hg; exact ih _ hP (LI_day P 0 l (by omega) hP h he hg) he hg
theorem strk_le2 (hP : P ≤ 8) : ∀ (r : Nat) (f : Nat → Int32) (e : Int32) (c : Nat), (∀ i, i < 64 → ∃ v, v ≤ B ∧ f i = nI v) → B < 2 ^ 30 → ∀ i, i < 64 → ∃ v, v ≤ B ∧ (strk P r f e c).1 i = nI v := by
  intro r
  induction r with
  | zero => intro f e c hf _ i hi; exact hf i hi
  | succ r ih =>
    intro f e c hf hB i hi
    unfold strk
    split
    · exact hf i hi
    · rename_i z hz
      have hn : NN f := fun i hi => by obtain ⟨v, hv, ev⟩ := hf i hi; exact ⟨v, by omega, ev⟩
      obtain ⟨-, -, s3⟩ := strF_ok hn hP hz
      exact ih _ _ _ (fun i hi => by
        obtain ⟨v, hv, ev⟩ := hf i hi
        obtain ⟨u, hu, eu⟩ := s3 i v hi ev (by omega)
        exact ⟨u, by omega, eu⟩) hB i hi
theorem LI_stk (h : LI l B T) (hP : P ≤ 8) (hB : B < 2 ^ 30) : LI (stkL P l) B T := by
  obtain ⟨h5, h1, h2, h6, h9⟩ := h
  unfold stkL
  refine ⟨?_, by simpa [vf_upd] using h1, by simpa [vf_upd] using h2, by simpa [vf_upd] using h6, by simpa [vf_upd] using h9⟩
  have := strk_le2 hP 64 (l 5) (l 12 0) 0 h5 hB
  simpa [vf_upd] using this
theorem LI_talkS {g : Nat} {z : Zt} (h : LI z.1 B T) (hB : B < 2 ^ 29) (hP : P ≤ 8) (hP0 : 0 < P) (hg : g ≤ 9) (hgk : k 11 0 = nI g) : LI (talkS k P z).1 (B + 24) T := by
  obtain ⟨a, ha, ea⟩ := draw_nat (x := turnI z.2.1) hP0 (show P < 2 ^ 31 by omega)
  obtain ⟨b, hb, eb⟩ := draw_nat (x := turnI (turnI z.2.1)) hP0 (show P < 2 ^ 31 by omega)
  obtain ⟨c, hc, ec⟩ := draw_nat (x := turnI (turnI (turnI z.2.1))) (M := 3) (by omega) (by omega)
  unfold talkS
  rw [ea, eb, ec, iN_nI (by omega), iN_nI (by omega), iN_nI (by omega)]
  split
  · rename_i hw
    exact LI_hear h hB hg hgk (by omega) (by omega) (by omega) hw
  · exact h.mono (by omega) (by omega)
theorem LI_talks {g : Nat} (hP : P ≤ 8) (hP0 : 0 < P) (hg : g ≤ 9) (hgk : k 11 0 = nI g) : ∀ (r B : Nat) (z : Zt), B + 24 * r < 2 ^ 29 → LI z.1 B T → LI (talksR k P r z).1 (B + 24 * r) T := by
  intro r
  induction r with
  | zero => intro B z _ h; exact h
  | succ r ih =>
    intro B z hB h
    have := ih (B + 24) _ (by omega) (LI_talkS h (by omega) hP hP0 hg hgk)
    have e : B + 24 + 24 * r = B + 24 * (r + 1) := by omega
    rw [e] at this
    exact this
theorem LI_draws {g N : Nat} (hP : P ≤ 8) (hP0 : 0 < P) (hg : g ≤ 9) (hgk : k 11 0 = nI g) (he : ∀ q, q < P → ∃ v, v ≤ 24 ∧ k 1 q = nI v) (hgr : ∀ q, q < P → ∃ v, v ≤ 9 ∧ k 2 q = nI v) (hN : N ≤ 9) : ∀ (r B : Nat) (z : Zt), B + 216 * r < 2 ^ 29 → LI z.1 B T → LI (drawsR k P N r z).1 (B + 216 * r) T := by
  intro r
  induction r with
  | zero => intro B z _ h; exact h
  | succ r ih =>
    intro B z hB h
    have h1 := LI_talks (T := T) hP hP0 hg hgk N B z (by omega) h
    have h2 : LI (talksR k P N z).1 (B + 216) T := h1.mono (by omega) (by omega)
    have := ih (B + 216) (dayR k 0 P (talksR k P N z).1, (talksR k P N z).2.1, (talksR k P N z).2.2) (by omega) (LI_day P 0 _ (by omega) hP h2 he hgr)
    have e : B + 216 + 216 * r = B + 216 * (r + 1) := by omega
    rw [e] at this
    exact this
/-- what the reference's methods ask for -/
theorem LI.nb (h : LI l B T) : NB l B := h.1
theorem LI.nq (h : LI l B T) (hB : B < 1000000000) : NQ (l 5) := fun i hi => by obtain ⟨v, hv, ev⟩ := h.1 i hi; exact ⟨v, by omega, ev⟩
theorem LI.sb (h : LI l B T) (hT : T ≤ 16777216) (hS : S ≤ 8) (hw : ∀ i, i < S → ∃ g, g ≤ 99 ∧ k 5 i = nI g) (hf : ∀ i, i < S → ∃ g, g ≤ 9 ∧ k 6 i = nI g) : SB l k S := by
  intro q hq
  obtain ⟨w, hw, ew⟩ := hw q hq
  obtain ⟨f, hf, ef⟩ := hf q hq
  obtain ⟨t, ht, et⟩ := h.2.2.2.1 q (by omega)
  exact ⟨w, f, t, hw, hf, by omega, ew, ef, et⟩
theorem rsum_nat {f : Nat → Int32} : ∀ (r p a : Nat), (∀ q, p ≤ q → q < p + r → ∃ v, v ≤ B ∧ f q = nI v) → ∃ v, v ≤ a + B * r ∧ rsum f p r (nI a) = nI v := by
  intro r
  induction r with
  | zero => intro p a _; exact ⟨a, by omega, rfl⟩
  | succ r ih =>
    intro p a h
    obtain ⟨u, hu, eu⟩ := h p (by omega) (by omega)
    obtain ⟨v, hv, ev⟩ := ih (p + 1) (a + u) (fun q a b => h q (by omega) (by omega))
    refine ⟨v, ?_, ?_⟩
    · rw [Nat.mul_succ]; omega
    · unfold rsum; rw [eu, nI_add]; exact ev
theorem csum_nat {f : Nat → Int32} : ∀ (r p a : Nat), (∀ q, q < 64 → ∃ v, v ≤ B ∧ f q = nI v) → p + 8 * r ≤ 71 → ∃ v, v ≤ a + B * r ∧ csum f p r (nI a) = nI v := by
  intro r
  induction r with
  | zero => intro p a _ _; exact ⟨a, by omega, rfl⟩
  | succ r ih =>
    intro p a h hp
    obtain ⟨u, hu, eu⟩ := h p (by omega)
    obtain ⟨v, hv, ev⟩ := ih (p + 8) (a + u) h (by omega)
    refine ⟨v, ?_, ?_⟩
    · rw [Nat.mul_succ]; omega
    · unfold csum; rw [eu, nI_add]; exact ev
theorem LI.mb (h : LI l B T) (hB : B < 2 ^ 26) : MB l := by
  obtain ⟨h5, h1, h2, h6, h9⟩ := h
  intro c p hp
  unfold msr
  split
  · obtain ⟨v, hv, ev⟩ := csum_nat (f := l 5) 8 p 0 h5 (by omega)
    exact ⟨v, by omega, ev⟩
  · split
    · obtain ⟨v, hv, ev⟩ := rsum_nat (f := l 5) (B := B) 8 (p * 8) 0 (fun q _ _ => h5 q (by omega))
      exact ⟨v, by omega, ev⟩
    · split
      · obtain ⟨v, hv, ev⟩ := h1 p hp; exact ⟨v, by omega, ev⟩
      · obtain ⟨v, hv, ev⟩ := h2 p hp; exact ⟨v, by omega, ev⟩
end INV
