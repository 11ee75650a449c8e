/-! TALKED: what it comes to, over codes -/
section STK
variable {P : Nat}
/-- found, how many talks the first set has, its codes -/
abbrev tS : Type := Nat × Nat × Nat × Nat × Nat
def tlS (ok : Bool) (n a b c : Nat) (S : tS) : tS := if ok = true then (if S.1 = 0 then (1, n, a, b, c) else (S.1 + 1, S.2)) else S
def tcd (S : tS) (i : Nat) : Nat := if i = 0 then S.2.2.1 else if i = 1 then S.2.2.2.1 else S.2.2.2.2
def foldC (F : Nat → tS → tS) : Nat → Nat → tS → tS
  | 0, _, S => S
  | r + 1, k, S => foldC F r (k + 1) (F k S)
/-- a talk's code taken off the balances -/
def buC (b : Nat → Int32) (P c : Nat) : Nat → Int32 := balU b (cdH P c) (cdW P c) (c % 3 + 1) (nI 1)
def vlC (P c : Nat) : Bool := decide (¬ cdH P c = cdW P c)
def k1F (P : Nat) (b : Nat → Int32) (k : Nat) (S : tS) : tS := if vlC P k = true then tlS (evR (buC b P k) P 0) 1 k 0 0 S else S
def k2F (P : Nat) (b : Nat → Int32) (i k : Nat) (S : tS) : tS := if (vlC P k && !sameT P k i) = true then tlS (evR (buC b P k) P 0) 2 i k 0 S else S
def k3F (P : Nat) (b : Nat → Int32) (i j k : Nat) (S : tS) : tS := if (vlC P k && !sameT P k i && !sameT P k j) = true then tlS (evR (buC b P k) P 0) 3 i j k S else S
def i2F (P : Nat) (b : Nat → Int32) (i : Nat) (S : tS) : tS := if vlC P i = true then foldC (k2F P (buC b P i) i) (3 * (P * P) - (i + 1)) (i + 1) S else S
def j3F (P : Nat) (b : Nat → Int32) (i j : Nat) (S : tS) : tS := if (vlC P j && !sameT P j i) = true then foldC (k3F P (buC b P j) i j) (3 * (P * P) - (j + 1)) (j + 1) S else S
def i3F (P : Nat) (b : Nat → Int32) (i : Nat) (S : tS) : tS := if vlC P i = true then foldC (j3F P (buC b P i) i) (3 * (P * P) - (i + 1)) (i + 1) S else S
def s0T (P : Nat) (b : Nat → Int32) : tS := tlS (evR b P 0) 0 0 0 0 (0, 0, 0, 0, 0)
def s1T (P : Nat) (b : Nat → Int32) : tS := foldC (k1F P b) (3 * (P * P)) 0 (s0T P b)
def s2T (P : Nat) (b : Nat → Int32) : tS := foldC (i2F P b) (3 * (P * P)) 0 (s1T P b)
def s3T (P : Nat) (b : Nat → Int32) : tS := foldC (i3F P b) (3 * (P * P)) 0 (s2T P b)
theorem tlS_le {ok : Bool} {n a b c : Nat} {S : tS} : (tlS ok n a b c S).1 ≤ S.1 + 1 := by
  unfold tlS
  split
  · split
    · show 1 ≤ S.1 + 1; omega
    · exact Nat.le_refl _
  · omega
theorem foldC_le {F : Nat → tS → tS} {B : Nat} (h : ∀ k S, (F k S).1 ≤ S.1 + B) : ∀ r k S, (foldC F r k S).1 ≤ S.1 + r * B := by
  intro r
  induction r with
  | zero => intro k S; simp [foldC]
  | succ r ih =>
    intro k S
    have := ih (k + 1) (F k S)
    have h1 := h k S
    rw [Nat.succ_mul]
    show (foldC F r (k + 1) (F k S)).1 ≤ _
    omega
theorem k1F_le {b : Nat → Int32} {k : Nat} {S : tS} : (k1F P b k S).1 ≤ S.1 + 1 := by
  unfold k1F; split
  · exact tlS_le
  · omega
theorem k2F_le {b : Nat → Int32} {i k : Nat} {S : tS} : (k2F P b i k S).1 ≤ S.1 + 1 := by
  unfold k2F; split
  · exact tlS_le
  · omega
theorem k3F_le {b : Nat → Int32} {i j k : Nat} {S : tS} : (k3F P b i j k S).1 ≤ S.1 + 1 := by
  unfold k3F; split
  · exact tlS_le
  · omega
theorem pp_le (hP6 : P ≤ 6) : 3 * (P * P) ≤ 108 := by
  have := Nat.mul_le_mul hP6 hP6
  omega
theorem i2F_le (hP6 : P ≤ 6) {b : Nat → Int32} {i : Nat} {S : tS} : (i2F P b i S).1 ≤ S.1 + 108 := by
  have hp := pp_le hP6
  unfold i2F; split
  · have := foldC_le (F := k2F P (buC b P i) i) (B := 1) (fun k S => k2F_le) (3 * (P * P) - (i + 1)) (i + 1) S
    omega
  · omega
theorem j3F_le (hP6 : P ≤ 6) {b : Nat → Int32} {i j : Nat} {S : tS} : (j3F P b i j S).1 ≤ S.1 + 108 := by
  have hp := pp_le hP6
  unfold j3F; split
  · have := foldC_le (F := k3F P (buC b P j) i j) (B := 1) (fun k S => k3F_le) (3 * (P * P) - (j + 1)) (j + 1) S
    omega
  · omega
theorem i3F_le (hP6 : P ≤ 6) {b : Nat → Int32} {i : Nat} {S : tS} : (i3F P b i S).1 ≤ S.1 + 11664 := by
  have hp := pp_le hP6
  unfold i3F; split
  · have := foldC_le (F := j3F P (buC b P i) i) (B := 108) (fun k S => j3F_le hP6) (3 * (P * P) - (i + 1)) (i + 1) S
    have h2 : (3 * (P * P) - (i + 1)) * 108 ≤ 108 * 108 := Nat.mul_le_mul_right 108 (by omega)
    omega
  · omega
theorem s0T_le {b : Nat → Int32} : (s0T P b).1 ≤ 1 := tlS_le
theorem s1T_le (hP6 : P ≤ 6) {b : Nat → Int32} : (s1T P b).1 ≤ 109 := by
  have hp := pp_le hP6
  have := foldC_le (F := k1F P b) (B := 1) (fun k S => k1F_le) (3 * (P * P)) 0 (s0T P b)
  have := s0T_le (P := P) (b := b)
  unfold s1T; omega
theorem s2T_le (hP6 : P ≤ 6) {b : Nat → Int32} : (s2T P b).1 ≤ 20000 := by
  have hp := pp_le hP6
  have := foldC_le (F := i2F P b) (B := 108) (fun k S => i2F_le hP6) (3 * (P * P)) 0 (s1T P b)
  have h2 : 3 * (P * P) * 108 ≤ 108 * 108 := Nat.mul_le_mul_right 108 (by omega)
  have := s1T_le hP6 (b := b)
  unfold s2T; omega
theorem s3T_le (hP6 : P ≤ 6) {b : Nat → Int32} : (s3T P b).1 ≤ 1500000 := by
  have hp := pp_le hP6
  have := foldC_le (F := i3F P b) (B := 11664) (fun k S => i3F_le hP6) (3 * (P * P)) 0 (s2T P b)
  have h2 : 3 * (P * P) * 11664 ≤ 108 * 11664 := Nat.mul_le_mul_right 11664 (by omega)
  have := s2T_le hP6 (b := b)
  unfold s3T; omega
/-- where just one k can change anything -/
theorem foldC_id {F : Nat → tS → tS} : ∀ r k S, (∀ j, k ≤ j → j < k + r → ∀ S, F j S = S) → foldC F r k S = S := by
  intro r
  induction r with
  | zero => intro k S _; rfl
  | succ r ih =>
    intro k S h
    show foldC F r (k + 1) (F k S) = S
    rw [h k (by omega) (by omega) S]
    exact ih (k + 1) S (fun j a b => h j (by omega) (by omega))
theorem foldC_one {F : Nat → tS → tS} : ∀ r k t S, (∀ j, k ≤ j → j < k + r → ¬ j = t → ∀ S, F j S = S) → foldC F r k S = if k ≤ t ∧ t < k + r then F t S else S := by
  intro r
  induction r with
  | zero => intro k t S _; rw [if_neg (by omega)]; rfl
  | succ r ih =>
    intro k t S h
    show foldC F r (k + 1) (F k S) = _
    by_cases e : k = t
    · subst e
      rw [if_pos ⟨by omega, by omega⟩]
      exact foldC_id r (k + 1) _ (fun j a b => h j (by omega) (by omega) (by omega))
    · rw [h k (by omega) (by omega) e S, ih (k + 1) t S (fun j a b c => h j (by omega) (by omega) c)]
      by_cases q : k + 1 ≤ t ∧ t < k + 1 + r
      · rw [if_pos q, if_pos ⟨by omega, by omega⟩]
      · rw [if_neg q, if_neg (by omega)]
end STK
