/-! TALKED: the reference, its sets -/
section RTP
variable {G : ai_G} {d sl : Nat} {Y : mY} {X X0 : mX} {P : Nat} {S : tS} {b : Nat → Int32}
theorem b01_iff {p q : Prop} [Decidable p] [Decidable q] (h : p ↔ q) : b01 p = b01 q := by
  unfold b01
  by_cases c : p
  · rw [if_pos c, if_pos (h.mp c)]
  · rw [if_neg c, if_neg (fun e => c (h.mpr e))]
/-- what the reference has found -/
def RK (X0 X : mX) (P : Nat) (S : tS) : Prop := X 199 46 = nI S.1 ∧ (S.1 = 0 → X 199 44 = X0 199 44) ∧ (¬ S.1 = 0 → S.2.1 ≤ 3 ∧ X 199 44 = nI S.2.1 ∧ ∀ i, i < S.2.1 → X 220 i = nI (vct P (tcd S i)) ∧ tcd S i < 3 * (P * P) ∧ vlC P (tcd S i) = true)
def TRH (X X' : mX) : Prop := (∀ j, ¬ j = 199 → ¬ j = 219 → ¬ j = 220 → X' j = X j) ∧ ∀ j, ¬ j = 44 → ¬ j = 46 → X' 199 j = X 199 j
theorem TRH.rfl' : TRH X X := ⟨fun _ _ _ _ => rfl, fun _ _ _ => rfl⟩
theorem TRH.tr {X' X2 : mX} (h : TRH X X') (g : TRH X' X2) : TRH X X2 := ⟨fun j a b c => (g.1 j a b c).trans (h.1 j a b c), fun j a b => (g.2 j a b).trans (h.2 j a b)⟩
theorem RWS_h {X' : mX} {n : Nat} (h : RWS X P n) (f : TRH X X') : RWS X' P n := by
  refine ⟨by rw [f.2 45 (by omega) (by omega)]; exact h.1, fun c a b => ?_⟩
  rw [f.1 216 (by omega) (by omega) (by omega), f.1 217 (by omega) (by omega) (by omega), f.1 218 (by omega) (by omega) (by omega)]
  exact h.2 c a b
theorem RK_cg {X' : mX} (h : RK X0 X P S) (a : X' 199 = X 199) (e : X' 220 = X 220) : RK X0 X' P S := by
  unfold RK at h ⊢
  rw [a, e]
  exact h
theorem balU_m {c : Nat} (h : ¬ cdH P c = cdW P c) : balU (buC b P c) (cdH P c) (cdW P c) (c % 3 + 1) mi1 = b := by
  have e := tkU_m (b := b) h
  unfold tkU at e
  unfold balU
  rw [Int32.mul_comm mi1]
  exact e
theorem tel_o {n a1 a2 a3 : Int32} {j : Nat} (h : ¬ j = 199) (h2 : ¬ j = 220) : telX X P n a1 a2 a3 j = X j := by
  unfold telX
  split
  · split
    · rw [va_up_ne _ _ h2, va_up_ne _ _ h]
    · rw [va_up_ne _ _ h]
  · rfl
theorem tel_h {n a1 a2 a3 : Int32} : TRH X (telX X P n a1 a2 a3) := by
  refine ⟨fun j a _ c => tel_o a c, fun j a c => ?_⟩
  unfold telX
  split
  · split
    · rw [va_up_ne _ _ (by omega), va_up_self, pk_un a, pk_un c]
    · rw [va_up_self, pk_un c]
  · rfl
theorem tel_RK {n a1 a2 a3 : Nat} {i1 i2 i3 : Int32} (hk : RK X0 X P S) (hn : n ≤ 3) (hS : S.1 < 2000000) (h1 : 0 < n → i1 = nI (vct P a1) ∧ a1 < 3 * (P * P) ∧ vlC P a1 = true) (h2 : 1 < n → i2 = nI (vct P a2) ∧ a2 < 3 * (P * P) ∧ vlC P a2 = true) (h3 : 2 < n → i3 = nI (vct P a3) ∧ a3 < 3 * (P * P) ∧ vlC P a3 = true) : RK X0 (telX X P (nI n) i1 i2 i3) P (tlS (evR (X 219) P 0) n a1 a2 a3 S) := by
  obtain ⟨k1, k2, k3⟩ := hk
  have hle : X 199 46 + nI 1 ≤ nI 1 ↔ S.1 = 0 := by
    rw [k1, nI_add, nI_leI (by omega) (by omega)]
    exact ⟨fun _ => by omega, fun _ => by omega⟩
  unfold telX tlS
  cases e : evR (X 219) P 0
  · rw [if_neg (by decide), if_neg (by decide)]
    exact ⟨k1, k2, k3⟩
  · rw [if_pos rfl, if_pos rfl]
    by_cases c : S.1 = 0
    · rw [if_pos (hle.mpr c), if_pos c]
      refine ⟨?_, fun q => absurd q Nat.one_ne_zero, fun _ => ⟨hn, ?_, fun i hi => ?_⟩⟩
      · rw [va_up_ne _ _ (by omega), va_up_self, pk_un (by omega), pk_us, k1, c, nI0p1]
      · rw [va_up_ne _ _ (by omega), va_up_self, pk_us]
      · have hi : i < n := hi
        rw [va_up_self]
        rcases (show i = 0 ∨ i = 1 ∨ i = 2 by omega) with rfl | rfl | rfl
        · rw [pk_un (by omega), pk_un (by omega), pk_us]; exact h1 (by omega)
        · rw [pk_un (by omega), pk_us]; exact h2 (by omega)
        · rw [pk_us]; exact h3 (by omega)
    · rw [if_neg (fun q => c (hle.mp q)), if_neg c]
      obtain ⟨m1, m2, m3⟩ := k3 c
      refine ⟨?_, fun q => absurd q (by omega), fun _ => ⟨m1, ?_, fun i hi => ?_⟩⟩
      · rw [va_up_self, pk_us, k1, nI_add]
      · rw [va_up_self, pk_un (by omega)]; exact m2
      · rw [va_up_ne _ _ (by omega)]; exact m3 i hi
/-- two talks of the rows -/
theorem two_RW {Q : List Value → Nat → Nat → ai_M → Prop} {i k : Nat} (hP : 0 < P) (hP6 : P ≤ 6) (hr : RWS X P (3 * (P * P))) (hi : i < 3 * (P * P)) (hk : k < 3 * (P * P)) (vi : vlC P i = true) (vk : vlC P k = true) : aw ET G d 261 0 [some (.ref 199), some (.int (nI (vct P i))), some (.int (nI (vct P k)))] [] 231 sl (mem X Y) Q = Q [.int (b01 (sameT P k i = true))] 231 sl (mem X Y) := by
  have v90 := vct_90 hP6
  have l1 := vct_lt hi vi
  have l2 := vct_lt hk vk
  obtain ⟨a1, a2, _⟩ := hr.2 i hi vi
  obtain ⟨b1, b2, _⟩ := hr.2 k hk vk
  have h1 := cdH_lt hP hi
  have h2 := cdW_lt hP (c := i)
  have h3 := cdH_lt hP hk
  have h4 := cdW_lt hP (c := k)
  rw [two_eq (by omega) (by omega)]
  have : b01 ((X 216 (vct P i) = X 216 (vct P k) ∧ X 217 (vct P i) = X 217 (vct P k)) ∨ (X 216 (vct P i) = X 217 (vct P k) ∧ X 217 (vct P i) = X 216 (vct P k))) = b01 (sameT P k i = true) := by
    apply b01_iff
    unfold sameT
    rw [decide_eq_true_eq, a1, a2, b1, b2, nI_eq (by omega) (by omega), nI_eq (by omega) (by omega), nI_eq (by omega) (by omega), nI_eq (by omega) (by omega)]
    constructor
    · rintro (⟨x, y⟩ | ⟨x, y⟩)
      · exact Or.inl ⟨x.symm, y.symm⟩
      · exact Or.inr ⟨y.symm, x.symm⟩
    · rintro (⟨x, y⟩ | ⟨x, y⟩)
      · exact Or.inl ⟨x.symm, y.symm⟩
      · exact Or.inr ⟨y.symm, x.symm⟩
  rw [this]
/-- one talk taken, or given back -/
theorem cnt_RW {Q : List Value → Nat → Nat → ai_M → Prop} {i : Nat} {v : Int32} (hP : 0 < P) (hP6 : P ≤ 6) (hr : RWS X P (3 * (P * P))) (hi : i < 3 * (P * P)) (vi : vlC P i = true) : aw ET G d 260 0 [some (.ref 199), some (.int (nI (vct P i))), some (.int v)] [] 231 sl (mem X Y) Q = Q [] 231 sl (mem (va_up X 219 (balU (X 219) (cdH P i) (cdW P i) (i % 3 + 1) v)) Y) := by
  have v90 := vct_90 hP6
  have l1 := vct_lt hi vi
  obtain ⟨a1, a2, a3⟩ := hr.2 i hi vi
  have h1 := cdH_lt hP hi
  have h2 := cdW_lt hP (c := i)
  exact counts_eq (by omega) (by omega) (by omega) a1 a2 a3
theorem TRH_219 {g : Nat → Int32} : TRH X (va_up X 219 g) := ⟨fun j _ a _ => va_up_ne _ _ a, fun j _ _ => by rw [va_up_ne _ _ (by omega)]⟩
end RTP
