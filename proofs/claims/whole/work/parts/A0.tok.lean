/-! TOKENS: what they are -/
section TOK
variable {t : Nat → Nat} {n lim i p : Nat}
def isAl (c : Nat) : Bool := decide (97 ≤ c) && decide (c ≤ 122)
def isDg (c : Nat) : Bool := decide (48 ≤ c) && decide (c ≤ 57)
def isBl (c : Nat) : Bool := decide (c = 32) || decide (c = 10)
def isSg (c : Nat) : Bool := decide (c = 59) || decide (c = 60) || decide (c = 61) || decide (c = 62) || decide (c = 40) || decide (c = 41)
def isAD (c : Nat) : Bool := isAl c || isDg c
/-- behind blanks -/
def skR (t : Nat → Nat) : Nat → Nat → Nat
  | 0, i => i
  | r + 1, i => if isBl (t i) = true then skR t r (i + 1) else i
/-- how long a run of letters and digits is -/
def rnR (t : Nat → Nat) : Nat → Nat → Nat
  | 0, _ => 0
  | r + 1, i => if isAD (t i) = true then rnR t r (i + 1) + 1 else 0
def cAl (t : Nat → Nat) (p : Nat) : Nat → Nat
  | 0 => 0
  | k + 1 => cAl t p k + (if isAl (t (p + k)) = true then 1 else 0)
def cDg (t : Nat → Nat) (p : Nat) : Nat → Nat
  | 0 => 0
  | k + 1 => cDg t p k + (if isAl (t (p + k)) = true then 0 else 1)
/-- the letters from p on -/
def fw (t : Nat → Nat) : Nat → Nat → List Nat
  | _, 0 => []
  | p, k + 1 => t p :: fw t (p + 1) k
theorem fw_snoc (t : Nat → Nat) : ∀ (k p : Nat), fw t p (k + 1) = fw t p k ++ [t (p + k)] := by
  intro k
  induction k with
  | zero => intro p; rfl
  | succ k ih =>
    intro p
    rw [fw, ih (p + 1), fw, List.cons_append, show p + 1 + k = p + (k + 1) by omega]
theorem fw_rev (t : Nat → Nat) (k p : Nat) : (fw t p (k + 1)).reverse = t (p + k) :: (fw t p k).reverse := by rw [fw_snoc, List.reverse_append]; rfl
theorem getD_at {α : Type} (l : List α) {i : Nat} (h : i < l.length) (d : α) : l.getD i d = l[i]'h := by rw [List.getD_eq_getElem?_getD, List.getElem?_eq_getElem h]; rfl
theorem fw_len (t : Nat → Nat) : ∀ (k p : Nat), (fw t p k).length = k := by
  intro k
  induction k with
  | zero => intro p; rfl
  | succ k ih => intro p; rw [fw, List.length_cons, ih]
def wr (B o : Nat) : List Nat → Nat
  | [] => 0
  | c :: w => wr B o w * B + (c - o)
def v5 (w : List Nat) : Nat := wr 32 96 w.reverse
def v8 (w : List Nat) : Nat := wr 256 0 w.reverse
/-- a word: letters, at most seven -/
def WD (w : List Nat) : Prop := (∀ c ∈ w, 97 ≤ c ∧ c ≤ 122) ∧ w.length ≤ 7
theorem wr_inj {B o : Nat} (h : ∀ c, 97 ≤ c → c ≤ 122 → 1 ≤ c - o ∧ c - o < B ∧ o ≤ c) : ∀ (w w' : List Nat), (∀ c ∈ w, 97 ≤ c ∧ c ≤ 122) → (∀ c ∈ w', 97 ≤ c ∧ c ≤ 122) → wr B o w = wr B o w' → w = w' := by
  intro w
  induction w with
  | nil =>
    intro w' _ h2 e
    cases w' with
    | nil => rfl
    | cons c w' =>
      have := h c (h2 c (by simp)).1 (h2 c (by simp)).2
      simp only [wr] at e
      omega
  | cons c w ih =>
    intro w' h1 h2 e
    have hc := h c (h1 c (by simp)).1 (h1 c (by simp)).2
    cases w' with
    | nil =>
      simp only [wr] at e
      omega
    | cons c' w' =>
      have hc' := h c' (h2 c' (by simp)).1 (h2 c' (by simp)).2
      simp only [wr] at e
      have e1 : wr B o w = wr B o w' := by
        have a : (wr B o w * B + (c - o)) / B = wr B o w := by
          rw [Nat.mul_comm, Nat.mul_add_div (by omega), Nat.div_eq_of_lt hc.2.1]; rfl
        have b : (wr B o w' * B + (c' - o)) / B = wr B o w' := by
          rw [Nat.mul_comm, Nat.mul_add_div (by omega), Nat.div_eq_of_lt hc'.2.1]; rfl
        rw [← a, ← b, e]
      rw [e1] at e
      have : c = c' := by omega
      rw [this, ih w' (fun x hx => h1 x (by simp [hx])) (fun x hx => h2 x (by simp [hx])) e1]
theorem wr_lt {B o : Nat} (hB : 0 < B) (h : ∀ c, 97 ≤ c → c ≤ 122 → c - o < B) : ∀ (w : List Nat), (∀ c ∈ w, 97 ≤ c ∧ c ≤ 122) → wr B o w < B ^ w.length := by
  intro w
  induction w with
  | nil => intro _; simp [wr]
  | cons c w ih =>
    intro h1
    have := ih (fun x hx => h1 x (by simp [hx]))
    have hc := h c (h1 c (by simp)).1 (h1 c (by simp)).2
    simp only [wr, List.length_cons, Nat.pow_succ]
    have : (wr B o w + 1) * B ≤ B ^ w.length * B := Nat.mul_le_mul_right _ (by omega)
    rw [Nat.add_mul] at this
    omega
theorem v5_inj {w w' : List Nat} (h : WD w) (h' : WD w') (e : v5 w = v5 w') : w = w' := by
  have := wr_inj (B := 32) (o := 96) (fun c a b => by omega) w.reverse w'.reverse (fun c hc => h.1 c (by simpa using hc)) (fun c hc => h'.1 c (by simpa using hc)) e
  simpa using this
theorem v8_inj {w w' : List Nat} (h : WD w) (h' : WD w') (e : v8 w = v8 w') : w = w' := by
  have := wr_inj (B := 256) (o := 0) (fun c a b => by omega) w.reverse w'.reverse (fun c hc => h.1 c (by simpa using hc)) (fun c hc => h'.1 c (by simpa using hc)) e
  simpa using this
theorem v5_lt {w : List Nat} (h : WD w) : v5 w < 2 ^ 35 := by
  have := wr_lt (B := 32) (o := 96) (by omega) (fun c a b => by omega) w.reverse (fun c hc => h.1 c (by simpa using hc))
  have h2 : 32 ^ w.reverse.length ≤ 32 ^ 7 := Nat.pow_le_pow_right (by omega) (by rw [List.length_reverse]; exact h.2)
  unfold v5
  omega
theorem v8_lt {w : List Nat} (h : WD w) : v8 w < 2 ^ 56 := by
  have := wr_lt (B := 256) (o := 0) (by omega) (fun c a b => by omega) w.reverse (fun c hc => h.1 c (by simpa using hc))
  have h2 : 256 ^ w.reverse.length ≤ 256 ^ 7 := Nat.pow_le_pow_right (by omega) (by rw [List.length_reverse]; exact h.2)
  unfold v8
  omega
def kws : List (List Nat) := [[112, 101, 114, 115, 111, 110], [111, 119, 101, 115], [115, 116, 111, 114, 121], [102, 114, 101, 101], [102, 97, 108, 115, 101], [103, 105, 102, 116], [114, 117, 105, 110], [104, 101, 97, 114, 115], [116, 101, 108, 108, 115], [100, 97, 121], [115, 116, 114, 105, 107, 101], [111, 114], [97, 110, 100], [110, 111, 116], [114, 117, 105, 110, 101, 100], [107, 110, 111, 119, 115], [110, 101, 101, 100], [101, 97, 114], [100, 101, 98, 116], [99, 114, 101, 100, 105, 116], [112, 108, 97, 99, 101]]
theorem kws_wd : ∀ u ∈ kws, WD u := by
  have h : kws.all (fun u => u.all (fun c => decide (97 ≤ c ∧ c ≤ 122)) && decide (u.length ≤ 7)) = true := by decide +kernel
  intro u hu
  have := List.all_eq_true.mp h u hu
  simp only [Bool.and_eq_true, decide_eq_true_eq, List.all_eq_true] at this
  exact this
/-- which of them a word is: its place, 21 for none -/
def kN (w : List Nat) : Nat := kws.findIdx (fun u => decide (u = w))
theorem kN_le (w : List Nat) : kN w ≤ 21 := List.findIdx_le_length
theorem kN_at {w : List Nat} {j : Nat} (hj : j < 21) : kN w = j ↔ w = kws.getD j [] := by
  have inj : ∀ a, a < 21 → ∀ b, b < 21 → kws.getD a [] = kws.getD b [] → a = b := by
    have h : (List.range 21).all (fun a => (List.range 21).all (fun b => decide (kws.getD a [] = kws.getD b [] → a = b))) = true := by decide +kernel
    intro a ha b hb
    have := List.all_eq_true.mp (List.all_eq_true.mp h a (List.mem_range.mpr ha)) b (List.mem_range.mpr hb)
    exact of_decide_eq_true this
  have hg : ∀ a (ha : a < 21), kws.getD a [] = kws[a]'(ha) := by
    intro a ha
    exact getD_at kws ha []
  constructor
  · intro e
    have hlt : kws.findIdx (fun u => decide (u = w)) < kws.length := by show kN w < 21; omega
    have := List.findIdx_getElem (w := hlt)
    have h2 := of_decide_eq_true this
    rw [← h2, hg j hj]
    congr 1
  · intro e
    have hlt : kN w < 21 := by
      show kws.findIdx _ < kws.length
      refine List.findIdx_lt_length_of_exists ⟨kws[j]'hj, List.getElem_mem _, ?_⟩
      rw [e, hg j hj]
      simp
    have := List.findIdx_getElem (xs := kws) (p := fun u => decide (u = w)) (w := hlt)
    have h2 := of_decide_eq_true this
    refine inj _ hlt _ hj ?_
    rw [hg _ hlt, ← e]
    exact h2
def skp (t : Nat → Nat) (n i : Nat) : Nat := skR t (n - i) i
/-- where a token stands that is sought from i on; how long its run is -/
def tP (t : Nat → Nat) (n lim i : Nat) : Nat := if n ≤ skp t n i ∨ lim ≤ skp t n i then min n lim else skp t n i
def tE (t : Nat → Nat) (n i : Nat) : Nat := rnR t (n - skp t n i) (skp t n i)
/-- its kind: 0 the end, 1 no token, 2 a word, 3 a number, a sign its byte -/
def rK (a b : Nat) : Nat := if b = 0 ∧ a ≤ 7 then 2 else if a = 0 ∧ b ≤ 3 then 3 else 1
def tK (t : Nat → Nat) (n lim i : Nat) : Nat := if n ≤ skp t n i ∨ lim ≤ skp t n i then (if lim < n then 1 else 0) else if isAD (t (skp t n i)) = true then rK (cAl t (skp t n i) (tE t n i)) (cDg t (skp t n i) (tE t n i)) else if isSg (t (skp t n i)) = true then t (skp t n i) else 1
/-- where the next one is sought -/
def tA (t : Nat → Nat) (n lim i : Nat) : Nat := if n ≤ skp t n i ∨ lim ≤ skp t n i then min n lim else if isAD (t (skp t n i)) = true then skp t n i + tE t n i else skp t n i + 1
def tW (t : Nat → Nat) (n i : Nat) : List Nat := fw t (skp t n i) (tE t n i)
def tN (t : Nat → Nat) (n i : Nat) : Nat := wr 10 48 (tW t n i).reverse
def tY (t : Nat → Nat) (n lim i : Nat) : Nat := if tK t n lim i = 2 then kN (tW t n i) else 21
theorem skR_ge (t : Nat → Nat) : ∀ (r i : Nat), i ≤ skR t r i ∧ skR t r i ≤ i + r := by
  intro r
  induction r with
  | zero => intro i; exact ⟨Nat.le_refl _, Nat.le_refl _⟩
  | succ r ih =>
    intro i
    unfold skR
    split
    · have := ih (i + 1); omega
    · omega
theorem rnR_le (t : Nat → Nat) : ∀ (r i : Nat), rnR t r i ≤ r := by
  intro r
  induction r with
  | zero => intro i; exact Nat.le_refl _
  | succ r ih =>
    intro i
    unfold rnR
    split
    · have := ih (i + 1); omega
    · omega
theorem skp_le (h : i ≤ n) : i ≤ skp t n i ∧ skp t n i ≤ n := by
  have := skR_ge t (n - i) i
  unfold skp
  omega
theorem tA_le (h : i ≤ n) : tA t n lim i ≤ n := by
  have h1 := skp_le (t := t) h
  unfold tA tE
  have h2 := rnR_le t (n - skp t n i) (skp t n i)
  split
  · omega
  · split <;> omega
theorem tA_gt (h : i ≤ n) (hk : 2 ≤ tK t n lim i) : i < tA t n lim i := by
  have h1 := skp_le (t := t) h
  unfold tA tE
  unfold tK at hk
  split
  · rename_i c
    rw [if_pos c] at hk
    split at hk <;> omega
  · rename_i c
    rw [if_neg c] at hk
    split
    · rename_i e
      rw [if_pos e] at hk
      have : 0 < rnR t (n - skp t n i) (skp t n i) := by
        obtain ⟨r, hr⟩ : ∃ r, n - skp t n i = r + 1 := ⟨n - skp t n i - 1, by omega⟩
        rw [hr]
        unfold rnR
        rw [if_pos e]
        omega
      omega
    · omega
theorem rn_AD (t : Nat → Nat) : ∀ (r i k : Nat), k < rnR t r i → isAD (t (i + k)) = true := by
  intro r
  induction r with
  | zero => intro i k h; exact absurd h (by unfold rnR; omega)
  | succ r ih =>
    intro i k h
    unfold rnR at h
    split at h
    · rename_i e
      cases k with
      | zero => exact e
      | succ k =>
        have := ih (i + 1) k (by omega)
        rwa [show i + 1 + k = i + (k + 1) by omega] at this
    · omega
theorem cAD (t : Nat → Nat) (p : Nat) : ∀ k, cAl t p k + cDg t p k = k := by
  intro k
  induction k with
  | zero => rfl
  | succ k ih =>
    unfold cAl cDg
    split <;> omega
theorem cDg_0 : ∀ k, cDg t p k = 0 → ∀ c ∈ fw t p k, 97 ≤ c ∧ c ≤ 122 := by
  intro k
  induction k with
  | zero => intro _ c hc; cases hc
  | succ k ih =>
    intro h c hc
    unfold cDg at h
    rw [fw_snoc] at hc
    rcases List.mem_append.mp hc with h1 | h1
    · exact ih (by omega) c h1
    · rw [List.mem_singleton] at h1
      subst h1
      split at h
      · rename_i e
        unfold isAl at e
        simpa using e
      · omega
theorem tW_wd (h : tK t n lim i = 2) (hi : i ≤ n) (ht : ∀ j, j < n → t j < 256) : WD (tW t n i) := by
  have h1 := skp_le (t := t) hi
  unfold tK at h
  split at h
  · split at h <;> omega
  · rename_i c
    split at h
    · unfold rK at h
      split at h
      · rename_i e
        refine ⟨cDg_0 _ e.1, ?_⟩
        unfold tW
        rw [fw_len]
        have := cAD t (skp t n i) (tE t n i)
        omega
      · split at h <;> omega
    · split at h
      · rename_i e
        rw [h] at e
        exact absurd e (by decide)
      · omega
theorem tY_lt (h : tY t n lim i < 21) : tK t n lim i = 2 := by
  unfold tY at h
  split at h
  · assumption
  · omega
theorem tY_le : tY t n lim i ≤ 21 := by
  unfold tY
  split
  · exact kN_le _
  · omega
end TOK
