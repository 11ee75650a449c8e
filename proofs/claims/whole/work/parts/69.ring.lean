/-! RINGS: what striking out does -/
section RNU
variable {f : Nat → Int32} {P : Nat} {z : List Nat}
def edg (z : List Nat) (i : Nat) : Nat := zr z i * 8 + zr z (nxt z.length i)
theorem zr_inj (h : z.Nodup) {i j : Nat} (hi : i < z.length) (hj : j < z.length) (e : zr z i = zr z j) : i = j := by
  have key : ∀ a b, a < b → b < z.length → z.getD a 0 ≠ z.getD b 0 := by
    intro a b hab hb
    have := List.pairwise_iff_getElem.mp h a b (by omega) hb hab
    rw [List.getD_eq_getElem?_getD, List.getD_eq_getElem?_getD, List.getElem?_eq_getElem (by omega), List.getElem?_eq_getElem hb]
    exact this
  unfold zr at e
  by_cases c1 : z.length - 1 - i < z.length - 1 - j
  · exact absurd e (key _ _ c1 (by omega))
  · by_cases c2 : z.length - 1 - j < z.length - 1 - i
    · exact absurd e.symm (key _ _ c2 (by omega))
    · omega
theorem nxt_lt {s i : Nat} (h : i < s) : nxt s i < s := by unfold nxt; split <;> omega
theorem edg_lt (hz : ∀ q ∈ z, q < 8) {i : Nat} (hi : i < z.length) : edg z i < 64 := by
  have a := hz _ (zr_mem hi)
  have b := hz _ (zr_mem (z := z) (nxt_lt hi))
  unfold edg
  omega
theorem edg_inj (h : z.Nodup) (hz : ∀ q ∈ z, q < 8) {i j : Nat} (hi : i < z.length) (hj : j < z.length) (e : edg z i = edg z j) : i = j := by
  have b := hz _ (zr_mem (z := z) (nxt_lt hi))
  have b2 := hz _ (zr_mem (z := z) (nxt_lt hj))
  unfold edg at e
  exact zr_inj h hi hj (by omega)
theorem RG_at : ∀ {z : List Nat}, RG f z → ∀ t, t + 1 < z.length → 0 < f (z.getD (t + 1) 0 * 8 + z.getD t 0) := by
  intro z
  induction z with
  | nil => intro _ t ht; simp at ht
  | cons a z ih =>
    intro h t ht
    match z, h, ih, ht with
    | [], _, _, ht => simp at ht
    | b :: w, h, ih, ht =>
      cases t with
      | zero => exact h.1
      | succ t =>
        have := ih h.2 t (by simpa using ht)
        simpa using this
theorem edg_pos (h3 : 3 ≤ z.length) (hr : RG f z) {fr : Nat} (hl : z.getLast? = some fr) (hc : 0 < f (z.headD 0 * 8 + fr)) {i : Nat} (hi : i < z.length) : 0 < f (edg z i) := by
  unfold edg nxt
  by_cases e : i + 1 < z.length
  · rw [if_pos e]
    have := RG_at hr (z.length - 1 - (i + 1)) (by omega)
    unfold zr
    rw [show z.length - 1 - (i + 1) + 1 = z.length - 1 - i by omega] at this
    exact this
  · rw [if_neg e]
    have e1 : zr z i = z.headD 0 := by
      unfold zr
      rw [show z.length - 1 - i = 0 by omega]
      cases z <;> rfl
    have e2 : zr z 0 = fr := by
      unfold zr
      rw [List.getLast?_eq_getElem?] at hl
      rw [List.getD_eq_getElem?_getD, show z.length - 1 - 0 = z.length - 1 by omega, hl]
      rfl
    rw [e1, e2]
    exact hc
theorem minI_nat {a b : Nat} (ha : a < 2 ^ 31) (hb : b < 2 ^ 31) : minI (nI a) (nI b) = nI (min a b) := by
  unfold minI
  by_cases h : b < a
  · rw [if_pos (nI_lt h ha), Nat.min_eq_right (by omega)]
  · rw [if_neg (nI_nlt (by omega) hb), Nat.min_eq_left (by omega)]
def NN (f : Nat → Int32) : Prop := ∀ i, i < 64 → ∃ v, v < 2 ^ 30 ∧ f i = nI v
theorem lstR_ok (hf : NN f) (hz : ∀ q ∈ z, q < 8) : ∀ (r i A : Nat), i + r + 1 ≤ z.length → A < 2 ^ 30 → ∃ m, m < 2 ^ 30 ∧ lstR f z i r (nI A) = nI m ∧ m ≤ A ∧ (∀ t, i ≤ t → t < i + r → ∃ v, v < 2 ^ 30 ∧ f (edg z t) = nI v ∧ m ≤ v) ∧ (m = A ∨ ∃ t, i ≤ t ∧ t < i + r ∧ f (edg z t) = nI m) := by
  intro r
  induction r with
  | zero => intro i A h hA; exact ⟨A, hA, rfl, Nat.le_refl _, fun t h1 h2 => by omega, Or.inl rfl⟩
  | succ r ih =>
    intro i A h hA
    have hn : nxt z.length i = i + 1 := if_pos (by omega)
    have he : edg z i = zr z i * 8 + zr z (i + 1) := by unfold edg; rw [hn]
    obtain ⟨v, hv, ev⟩ := hf (edg z i) (edg_lt hz (by omega))
    obtain ⟨m, m1, m2, m3, m4, m5⟩ := ih (i + 1) (min A v) (by omega) (by omega)
    refine ⟨m, m1, ?_, by omega, ?_, ?_⟩
    · unfold lstR
      rw [← he, ev, minI_nat (by omega) (by omega)]
      exact m2
    · intro t h1 h2
      by_cases e : t = i
      · subst e; exact ⟨v, hv, ev, by omega⟩
      · exact m4 t (by omega) (by omega)
    · rcases m5 with rfl | ⟨t, t1, t2, t3⟩
      · by_cases c : A ≤ v
        · left; omega
        · right; exact ⟨i, by omega, by omega, by rw [ev]; congr 1; omega⟩
      · right; exact ⟨t, by omega, by omega, t3⟩
theorem lstZ_ok (hf : NN f) (hz : ∀ q ∈ z, q < 8) (h3 : 3 ≤ z.length) (hp : ∀ i, i < z.length → 0 < f (edg z i)) : ∃ m, 0 < m ∧ m < 2 ^ 30 ∧ lstZ f z = nI m ∧ (∀ i, i < z.length → ∃ v, v < 2 ^ 30 ∧ f (edg z i) = nI v ∧ m ≤ v) ∧ ∃ i, i < z.length ∧ f (edg z i) = nI m := by
  have hn : nxt z.length (z.length - 1) = 0 := if_neg (by omega)
  have he : edg z (z.length - 1) = zr z (z.length - 1) * 8 + zr z 0 := by unfold edg; rw [hn]
  obtain ⟨A, hA, eA⟩ := hf (edg z (z.length - 1)) (edg_lt hz (by omega))
  obtain ⟨m, m1, m2, m3, m4, m5⟩ := lstR_ok hf hz (z.length - 1) 0 A (by omega) hA
  have hm : ∃ i, i < z.length ∧ f (edg z i) = nI m := by
    rcases m5 with rfl | ⟨t, t1, t2, t3⟩
    · exact ⟨z.length - 1, by omega, eA⟩
    · exact ⟨t, by omega, t3⟩
  have hm0 : 0 < m := by
    obtain ⟨i, i1, i2⟩ := hm
    have := hp i i1
    rw [i2] at this
    have h0 : nI 0 < nI m := this
    rw [nI_ltI (by omega) (by omega)] at h0
    exact h0
  refine ⟨m, hm0, m1, ?_, ?_, hm⟩
  · unfold lstZ
    rw [← he, eA]
    exact m2
  · intro i hi
    by_cases e : i = z.length - 1
    · subst e; exact ⟨A, hA, eA, m3⟩
    · exact m4 i (by omega) (by omega)
theorem subR_at (h : z.Nodup) (hz : ∀ q ∈ z, q < 8) {v : Int32} : ∀ (r i : Nat) (f : Nat → Int32) (j : Nat), i + r ≤ z.length → ((∃ t, i ≤ t ∧ t < i + r ∧ edg z t = j) → subR z v i r f j = f j - v) ∧ (¬ (∃ t, i ≤ t ∧ t < i + r ∧ edg z t = j) → subR z v i r f j = f j) := by
  intro r
  induction r with
  | zero =>
    intro i f j hi
    exact ⟨fun ⟨t, a, b, _⟩ => by omega, fun _ => rfl⟩
  | succ r ih =>
    intro i f j hi
    have he : zr z i * 8 + zr z (nxt z.length i) = edg z i := rfl
    obtain ⟨i1, i2⟩ := ih (i + 1) (upd f (edg z i) (f (edg z i) - v)) j (by omega)
    have hs : subR z v i (r + 1) f = subR z v (i + 1) r (upd f (edg z i) (f (edg z i) - v)) := rfl
    rw [hs]
    constructor
    · rintro ⟨t, t1, t2, t3⟩
      by_cases e : t = i
      · subst e
        rw [i2 (by rintro ⟨s, s1, s2, s3⟩; have := edg_inj h hz (i := s) (j := t) (by omega) (by omega) (by rw [s3, t3]); omega), ← t3, pk_us]
      · have hne : ¬ edg z i = j := fun q => by have := edg_inj h hz (i := i) (j := t) (by omega) (by omega) (by rw [q, t3]); omega
        rw [i1 ⟨t, by omega, by omega, t3⟩, pk_un (fun q => hne q.symm)]
    · intro hno
      have hne : ¬ edg z i = j := fun q => hno ⟨i, by omega, by omega, q⟩
      rw [i2 (fun ⟨t, t1, t2, t3⟩ => hno ⟨t, by omega, by omega, t3⟩), pk_un (fun q => hne q.symm)]
/-- how many notes stand -/
def nzc (f : Nat → Int32) : Nat → Nat
  | 0 => 0
  | n + 1 => (if 0 < f n then 1 else 0) + nzc f n
theorem nzc_le {f g : Nat → Int32} : ∀ n, (∀ i, i < n → 0 < g i → 0 < f i) → nzc g n ≤ nzc f n := by
  intro n
  induction n with
  | zero => intro _; exact Nat.le_refl _
  | succ n ih =>
    intro h
    have a := ih (fun i hi => h i (by omega))
    have b := h n (by omega)
    unfold nzc
    by_cases c : 0 < g n
    · rw [if_pos c, if_pos (b c)]; omega
    · rw [if_neg c]; omega
theorem nzc_lt {f g : Nat → Int32} : ∀ n, (∀ i, i < n → 0 < g i → 0 < f i) → (∃ j, j < n ∧ 0 < f j ∧ ¬ 0 < g j) → nzc g n + 1 ≤ nzc f n := by
  intro n
  induction n with
  | zero => rintro _ ⟨j, hj, _⟩; omega
  | succ n ih =>
    rintro h ⟨j, hj, h1, h2⟩
    unfold nzc
    by_cases e : j = n
    · subst e
      have := nzc_le j (fun i hi => h i (by omega))
      rw [if_pos h1, if_neg h2]
      omega
    · have a := ih (fun i hi => h i (by omega)) ⟨j, by omega, h1, h2⟩
      have b := h n (by omega)
      by_cases c : 0 < g n
      · rw [if_pos c, if_pos (b c)]; omega
      · rw [if_neg c]; omega
theorem strF_ok (hf : NN f) (hP : P ≤ 8) (hr : ringS f P = some z) : NN (strF f z) ∧ nzc (strF f z) 64 + 1 ≤ nzc f 64 ∧ (∀ i v, i < 64 → f i = nI v → v < 2 ^ 30 → ∃ u, u ≤ v ∧ strF f z i = nI u) := by
  obtain ⟨h3, hl, hnd, hzP, hRG, fr, hfr, hc⟩ := ringS_ok hr
  have hz : ∀ q ∈ z, q < 8 := fun q hq => by have := hzP q hq; omega
  have hp : ∀ i, i < z.length → 0 < f (edg z i) := fun i hi => edg_pos h3 hRG hfr hc hi
  obtain ⟨m, m0, m1, m2, m3, i0, i1, i2⟩ := lstZ_ok hf hz h3 hp
  have key : ∀ j v, j < 64 → f j = nI v → v < 2 ^ 30 → ∃ u, u ≤ v ∧ strF f z j = nI u := by
    intro j v hj ev hv
    obtain ⟨s1, s2⟩ := subR_at (v := lstZ f z) hnd hz z.length 0 f j (by omega)
    by_cases c : ∃ t, 0 ≤ t ∧ t < 0 + z.length ∧ edg z t = j
    · have := s1 c
      obtain ⟨t, t1, t2, t3⟩ := c
      obtain ⟨v', w1, w2, w3⟩ := m3 t (by omega)
      rw [t3, ev] at w2
      have := (nI_eq (by omega) (by omega)).mp w2
      subst this
      refine ⟨v - m, by omega, ?_⟩
      unfold strF
      rw [s1 ⟨t, t1, t2, t3⟩, ev, m2, pk_sub w3]
    · refine ⟨v, Nat.le_refl _, ?_⟩
      unfold strF
      rw [s2 c, ev]
  refine ⟨?_, ?_, key⟩
  · intro i hi
    obtain ⟨v, v1, v2⟩ := hf i hi
    obtain ⟨u, u1, u2⟩ := key i v hi v2 v1
    exact ⟨u, by omega, u2⟩
  · apply nzc_lt
    · intro i hi h0
      obtain ⟨v, v1, v2⟩ := hf i hi
      obtain ⟨u, u1, u2⟩ := key i v hi v2 v1
      rw [u2] at h0
      rw [v2]
      have h0' : nI 0 < nI u := h0
      rw [nI_ltI (by omega) (by omega)] at h0'
      exact nI_lt (a := 0) (by omega) (by omega)
    · refine ⟨edg z i0, edg_lt hz i1, hp i0 i1, ?_⟩
      obtain ⟨s1, s2⟩ := subR_at (v := lstZ f z) hnd hz z.length 0 f (edg z i0) (by omega)
      unfold strF
      rw [s1 ⟨i0, by omega, by omega, rfl⟩, i2, m2, pk_sub (Nat.le_refl _), Nat.sub_self]
      decide
theorem ringS_nz (hf : NN f) (hP : P ≤ 8) (h0 : nzc f 64 = 0) : ringS f P = none := by
  cases hr : ringS f P with
  | none => rfl
  | some z => have := (strF_ok hf hP hr).2.1; omega
end RNU
