/-! TALKED: the class, the talk that the rest asks for -/
section STR
variable {G : ai_G} {d sl : Nat} {Q : List Value → Nat → Nat → ai_M → Prop} {Y : mY} {X : mX} {P : Nat}
def torS (b : Nat → Int32) : Nat → Nat → Int32 → Int32 → Option (Int32 × Int32)
  | 0, _, h, w => some (h, w)
  | r + 1, p, h, w => if nI 0 < b p then (if h = mi1 then torS b r (p + 1) (nI p) w else none) else if b p < nI 0 then (if w = mi1 then torS b r (p + 1) h (nI p) else none) else torS b r (p + 1) h w
def torF (b : Nat → Int32) (P : Nat) : Option (Int32 × Int32) → Int32
  | none => mi1
  | some (h, w) => if h = mi1 ∨ w = mi1 then mi1 else if b (iN h) ≤ nI 3 ∧ b (iN w) = -(b (iN h)) then (h * nI P + w) * nI 3 + b (iN h) - nI 1 else mi1
def torR (b : Nat → Int32) (P : Nat) : Int32 := torF b P (torS b P 0 mi1 mi1)
theorem evR_iff {b : Nat → Int32} : ∀ (r q : Nat), evR b r q = true ↔ ∀ i, q ≤ i → i < q + r → b i = nI 0 := by
  intro r
  induction r with
  | zero => intro q; simp [evR]; intro i a b; omega
  | succ r ih =>
    intro q
    rw [evR, Bool.and_eq_true, decide_eq_true_eq, ih (q + 1)]
    constructor
    · rintro ⟨h0, h⟩ i a b
      by_cases e : i = q
      · rw [e]; exact h0
      · exact h i (by omega) (by omega)
    · intro h
      exact ⟨h q (by omega) (by omega), fun i a b => h i (by omega) (by omega)⟩
theorem sub0 {a x : Int32} (h : a - x = nI 0) : a = x := by
  have h2 : a - x + x = nI 0 + x := by rw [h]
  rw [Int32.sub_add_cancel] at h2
  rw [h2]
  exact Int32.zero_add x
theorem add0n {a x : Int32} (h : a + x = nI 0) : a = -x := by
  have h2 : a + x - x = nI 0 - x := by rw [h]
  rw [add_sub_same] at h2
  rw [h2, Int32.sub_eq_add_neg]
  exact Int32.zero_add _
theorem buC_o {b : Nat → Int32} {c i : Nat} (h1 : ¬ i = cdH P c) (h2 : ¬ i = cdW P c) : buC b P c i = b i := by
  unfold buC balU
  rw [pk_un h2, pk_un h1]
theorem buC_w {b : Nat → Int32} {c : Nat} (h : ¬ cdH P c = cdW P c) : buC b P c (cdW P c) = b (cdW P c) + nI (c % 3 + 1) := by
  unfold buC balU
  rw [pk_us, pk_un (fun e => h e.symm)]
  congr 1
  exact Int32.one_mul _
theorem buC_h {b : Nat → Int32} {c : Nat} (h : ¬ cdH P c = cdW P c) : buC b P c (cdH P c) = b (cdH P c) - nI (c % 3 + 1) := by
  unfold buC balU
  rw [pk_un h, pk_us]
  congr 1
  exact Int32.one_mul _
theorem cdH_lt (hP : 0 < P) {c : Nat} (hc : c < 3 * (P * P)) : cdH P c < P := by
  unfold cdH
  have : c / 3 < P * P := by omega
  exact Nat.div_lt_of_lt_mul this
theorem cdW_lt (hP : 0 < P) {c : Nat} : cdW P c < P := Nat.mod_lt _ hP
theorem cd_mk (hP : 0 < P) {H W u : Nat} (hW : W < P) (hu : u < 3) : cdH P ((H * P + W) * 3 + u) = H ∧ cdW P ((H * P + W) * 3 + u) = W ∧ ((H * P + W) * 3 + u) % 3 = u := by
  have e : ((H * P + W) * 3 + u) / 3 = H * P + W := by omega
  unfold cdH cdW
  rw [e]
  refine ⟨?_, ?_, by omega⟩
  · rw [Nat.mul_comm, Nat.mul_add_div hP, Nat.div_eq_of_lt hW]; omega
  · rw [Nat.mul_comm, Nat.mul_add_mod, Nat.mod_eq_of_lt hW]
theorem cd_mk2 (hP : 0 < P) (c : Nat) : (cdH P c * P + cdW P c) * 3 + c % 3 = c := by
  unfold cdH cdW
  have h1 := Nat.div_add_mod (c / 3) P
  have h2 := Nat.div_add_mod c 3
  rw [Nat.mul_comm (c / 3 / P) P, h1]
  omega
/-- the way there -/
theorem torS_to {b : Nat → Int32} {H W : Nat} (hb1 : nI 0 < b H) (hb2 : b W < nI 0) (hHP : H < 6) (hWP : W < 6) : ∀ (r p : Nat) (h w : Int32), H < p + r → W < p + r → p + r ≤ 6 → (∀ i, i < p + r → ¬ i = H → ¬ i = W → b i = nI 0) → (h = if H < p then nI H else mi1) → (w = if W < p then nI W else mi1) → torS b r p h w = some (nI H, nI W) := by
  intro r
  induction r with
  | zero =>
    intro p h w h1 h2 h6 ho eh ew
    rw [eh, ew, if_pos (by omega), if_pos (by omega)]
    rfl
  | succ r ih =>
    intro p h w h1 h2 h6 ho eh ew
    have hne : ¬ H = W := fun e => by rw [e] at hb1; exact Int32.lt_irrefl (Int32.lt_trans hb1 hb2)
    unfold torS
    by_cases e1 : p = H
    · subst e1
      rw [if_pos hb1, if_pos (by rw [eh, if_neg (by omega)])]
      exact ih (p + 1) _ _ (by omega) (by omega) (by omega) (fun i a b c => ho i (by omega) b c) (by rw [if_pos (by omega)]) (by rw [ew]; by_cases q : W < p <;> simp [q, show (W < p + 1) = (W < p) by simp; omega])
    · by_cases e2 : p = W
      · subst e2
        rw [if_neg (fun c => Int32.lt_irrefl (Int32.lt_trans c hb2)), if_pos hb2, if_pos (by rw [ew, if_neg (by omega)])]
        exact ih (p + 1) _ _ (by omega) (by omega) (by omega) (fun i a b c => ho i (by omega) b c) (by rw [eh]; by_cases q : H < p <;> simp [q, show (H < p + 1) = (H < p) by simp; omega]) (by rw [if_pos (by omega)])
      · have e0 := ho p (by omega) e1 e2
        rw [e0, if_neg (Int32.lt_irrefl), if_neg (Int32.lt_irrefl)]
        exact ih (p + 1) _ _ (by omega) (by omega) (by omega) (fun i a b c => ho i (by omega) b c) (by rw [eh]; by_cases q : H < p <;> simp [q, show (H < p + 1) = (H < p) by simp; omega]) (by rw [ew]; by_cases q : W < p <;> simp [q, show (W < p + 1) = (W < p) by simp; omega])
/-- the way back -/
def torI (g : Nat → Prop) (p : Nat) (h : Int32) : Prop := (h = mi1 ∧ ∀ i, i < p → ¬ g i) ∨ ∃ H, H < p ∧ h = nI H ∧ g H ∧ ∀ i, i < p → g i → i = H
theorem torI_no {g : Nat → Prop} {p : Nat} {h : Int32} (a : torI g p h) (n : ¬ g p) : torI g (p + 1) h := by
  rcases a with ⟨a, b⟩ | ⟨H, h1, h2, h3, h4⟩
  · exact Or.inl ⟨a, fun i hi => by
      by_cases e : i = p
      · rw [e]; exact n
      · exact b i (by omega)⟩
  · exact Or.inr ⟨H, by omega, h2, h3, fun i hi gi => by
      by_cases e : i = p
      · rw [e] at gi; exact absurd gi n
      · exact h4 i (by omega) gi⟩
theorem torI_yes {g : Nat → Prop} {p : Nat} {h : Int32} (hp : p < 6) (a : torI g p h) (n : g p) (hm : h = mi1) : torI g (p + 1) (nI p) := by
  rcases a with ⟨a, b⟩ | ⟨H, h1, h2, h3, h4⟩
  · exact Or.inr ⟨p, by omega, rfl, n, fun i hi gi => by
      by_cases e : i = p
      · exact e
      · exact absurd gi (b i (by omega))⟩
  · rw [h2] at hm
    exact absurd hm (nI_mi1 (by omega))
theorem torS_fro {b : Nat → Int32} : ∀ (r p : Nat) (h w h' w' : Int32), p + r ≤ 6 → torI (fun i => nI 0 < b i) p h → torI (fun i => b i < nI 0) p w → torS b r p h w = some (h', w') → torI (fun i => nI 0 < b i) (p + r) h' ∧ torI (fun i => b i < nI 0) (p + r) w' := by
  intro r
  induction r with
  | zero =>
    intro p h w h' w' h6 a c e
    cases e
    exact ⟨a, c⟩
  | succ r ih =>
    intro p h w h' w' h6 a c e
    unfold torS at e
    rw [show p + (r + 1) = p + 1 + r by omega]
    split at e
    · rename_i q
      split at e
      · rename_i q2
        exact ih (p + 1) _ _ _ _ (by omega) (torI_yes (by omega) a q q2) (torI_no c (fun z => Int32.lt_irrefl (Int32.lt_trans q z))) e
      · cases e
    · rename_i q
      split at e
      · rename_i q1
        split at e
        · rename_i q2
          exact ih (p + 1) _ _ _ _ (by omega) (torI_no a q) (torI_yes (by omega) c q1 q2) e
        · cases e
      · rename_i q1
        exact ih (p + 1) _ _ _ _ (by omega) (torI_no a q) (torI_no c q1) e
theorem i3_at {x : Int32} (h1 : nI 0 < x) (h2 : x ≤ nI 3) : ∃ u, u < 3 ∧ x = nI (u + 1) := by
  obtain ⟨m, _, m2, rfl⟩ := inI_nat (lo := 0) (hi := 3) (by omega) (by omega) (x := x) (by unfold inI; exact decide_eq_true ⟨Int32.le_of_lt h1, h2⟩)
  rw [nI_ltI (by omega) (by omega)] at h1
  exact ⟨m - 1, by omega, by congr 1; omega⟩
theorem torR_to (hP : 0 < P) (hP6 : P ≤ 6) {b : Nat → Int32} {c : Nat} (hc : c < 3 * (P * P)) (hv : vlC P c = true) (he : evR (buC b P c) P 0 = true) : torR b P = nI c := by
  have hv := of_decide_eq_true hv
  have h1 := cdH_lt hP hc
  have h2 := cdW_lt hP (c := c)
  have hp := pp_le hP6
  rw [evR_iff] at he
  have a1 := he (cdH P c) (by omega) (by omega)
  have a2 := he (cdW P c) (by omega) (by omega)
  rw [buC_h hv] at a1
  rw [buC_w hv] at a2
  have b1 := sub0 a1
  have b2 := add0n a2
  have c1 : nI 0 < nI (c % 3 + 1) := by rw [nI_ltI (by omega) (by omega)]; omega
  have c2 : -(nI (c % 3 + 1)) < nI 0 := by
    rcases (show c % 3 = 0 ∨ c % 3 = 1 ∨ c % 3 = 2 by omega) with e | e | e <;> rw [e] <;> decide
  have e := torS_to (b := b) (by rw [b1]; exact c1) (by rw [b2]; exact c2) (by omega) (by omega) P 0 mi1 mi1 (by omega) (by omega) (by omega) (fun i hi q1 q2 => by
    have := he i (by omega) (by omega)
    rw [buC_o q1 q2] at this
    exact this) (by rw [if_neg (by omega)]) (by rw [if_neg (by omega)])
  unfold torR
  rw [e]
  show (if nI (cdH P c) = mi1 ∨ nI (cdW P c) = mi1 then mi1 else _) = _
  rw [if_neg (fun q => q.elim (nI_mi1 (by omega)) (nI_mi1 (by omega))), iN_nI (by omega), iN_nI (by omega), b1, if_pos ⟨by rw [nI_leI (by omega) (by omega)]; omega, b2⟩]
  have m1 : cdH P c * P ≤ 36 := by have := Nat.mul_le_mul (show cdH P c ≤ 6 by omega) hP6; omega
  rw [pk_mul, nI_add, pk_mul, nI_add, pk_sub (by omega)]
  congr 1
  have := cd_mk2 hP c
  omega
theorem torR_fro (hP : 0 < P) (hP6 : P ≤ 6) {b : Nat → Int32} : torR b P = mi1 ∨ ∃ c, c < 3 * (P * P) ∧ vlC P c = true ∧ evR (buC b P c) P 0 = true ∧ torR b P = nI c := by
  unfold torR
  cases e : torS b P 0 mi1 mi1 with
  | none => exact Or.inl rfl
  | some q =>
    obtain ⟨h, w⟩ := q
    obtain ⟨ah, aw⟩ := torS_fro P 0 _ _ _ _ (by omega) (Or.inl ⟨rfl, fun i hi => by omega⟩) (Or.inl ⟨rfl, fun i hi => by omega⟩) e
    rw [Nat.zero_add] at ah aw
    show (if h = mi1 ∨ w = mi1 then mi1 else _) = _ ∨ _
    by_cases q : h = mi1 ∨ w = mi1
    · rw [if_pos q]; exact Or.inl rfl
    · rw [if_neg q]
      rcases ah with ⟨ah, _⟩ | ⟨H, h1, rfl, h3, h4⟩
      · exact absurd (Or.inl ah) q
      rcases aw with ⟨aw, _⟩ | ⟨W, w1, rfl, w3, w4⟩
      · exact absurd (Or.inr aw) q
      rw [iN_nI (by omega), iN_nI (by omega)]
      by_cases q2 : b H ≤ nI 3 ∧ b W = -b H
      · rw [if_pos q2]
        obtain ⟨u, hu, eu⟩ := i3_at h3 q2.1
        have hHW : ¬ H = W := fun e => by rw [e] at h3; exact Int32.lt_irrefl (Int32.lt_trans h3 w3)
        obtain ⟨k1, k2, k3⟩ := cd_mk (H := H) hP w1 hu
        have hlt : (H * P + W) * 3 + u < 3 * (P * P) := by
          have : (H + 1) * P ≤ P * P := Nat.mul_le_mul_right P (by omega)
          rw [Nat.add_mul] at this
          omega
        have hp := pp_le hP6
        have hv : ¬ cdH P ((H * P + W) * 3 + u) = cdW P ((H * P + W) * 3 + u) := by rw [k1, k2]; exact hHW
        refine Or.inr ⟨(H * P + W) * 3 + u, hlt, decide_eq_true hv, ?_, ?_⟩
        · rw [evR_iff]
          intro i _ hi
          by_cases e1 : i = H
          · have := buC_h (b := b) hv
            rw [k1, k3] at this
            rw [e1, this, eu, Int32.sub_self]
            rfl
          · by_cases e2 : i = W
            · have := buC_w (b := b) hv
              rw [k2, k3] at this
              rw [e2, this, q2.2, eu, Int32.add_left_neg]
              rfl
            · rw [buC_o (by rw [k1]; exact e1) (by rw [k2]; exact e2)]
              have n1 : ¬ nI 0 < b i := fun z => e1 (h4 i (by omega) z)
              have n2 : ¬ b i < nI 0 := fun z => e2 (w4 i (by omega) z)
              exact Int32.le_antisymm (Int32.not_lt.mp n1) (Int32.not_lt.mp n2)
        · show (if nI H = mi1 ∨ nI W = mi1 then mi1 else if b (iN (nI H)) ≤ nI 3 ∧ b (iN (nI W)) = -b (iN (nI H)) then (nI H * nI P + nI W) * nI 3 + b (iN (nI H)) - nI 1 else mi1) = _
          rw [if_neg q, iN_nI (by omega), iN_nI (by omega), if_pos q2, eu, pk_mul, nI_add, pk_mul, nI_add, pk_sub (by omega)]
          congr 1
      · rw [if_neg q2]; exact Or.inl rfl
end STR
