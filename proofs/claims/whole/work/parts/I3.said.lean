/-! SAID: what it comes to, sets as numbers -/
section SDA
variable {P : Nat} {l k : Nat → Nat → Int32}
theorem nI_and (a b : Nat) : nI a &&& nI b = nI (a &&& b) := by
  apply Int32.toBitVec_inj.mp
  show BitVec.ofNat 32 a &&& BitVec.ofNat 32 b = BitVec.ofNat 32 (a &&& b)
  exact BitVec.eq_of_getLsbD_eq (fun i hi => by simp [BitVec.getLsbD_ofNat, Nat.testBit_and, hi])
theorem nI_or (a b : Nat) : nI a ||| nI b = nI (a ||| b) := by
  apply Int32.toBitVec_inj.mp
  show BitVec.ofNat 32 a ||| BitVec.ofNat 32 b = BitVec.ofNat 32 (a ||| b)
  exact BitVec.eq_of_getLsbD_eq (fun i hi => by simp [BitVec.getLsbD_ofNat, Nat.testBit_or, hi])
theorem all_P (hP : P ≤ 8) : nI 1 <<< (nI P &&& 31) - nI 1 = nI (2 ^ P - 1) := by
  have h : (List.range 9).all (fun P => nI 1 <<< (nI P &&& 31) - nI 1 == nI (2 ^ P - 1)) = true := by decide +kernel
  exact eq_of_beq (List.all_eq_true.mp h P (List.mem_range.mpr (by omega)))
theorem p2_8 (hP : P ≤ 8) : 2 ^ P ≤ 256 := Nat.pow_le_pow_right (by omega) hP
def ntM (P m : Nat) : Nat := 2 ^ P - 1 - m
theorem not_P (hP : P ≤ 8) {m : Nat} (hm : m < 2 ^ P) : nI (2 ^ P - 1) &&& (nI m ^^^ mi1) = nI (ntM P m) := by
  have h : (List.range 9).all (fun P => (List.range (2 ^ P)).all (fun m => nI (2 ^ P - 1) &&& (nI m ^^^ mi1) == nI (ntM P m))) = true := by decide +kernel
  exact eq_of_beq (List.all_eq_true.mp (List.all_eq_true.mp h P (List.mem_range.mpr (by omega))) m (List.mem_range.mpr hm))
theorem ntM_bit (hP : P ≤ 8) {m p : Nat} (hm : m < 2 ^ P) (hp : p < P) : (ntM P m).testBit p = !m.testBit p := by
  have h : (List.range 9).all (fun P => (List.range (2 ^ P)).all (fun m => (List.range P).all (fun p => (ntM P m).testBit p == !m.testBit p))) = true := by decide +kernel
  exact eq_of_beq (List.all_eq_true.mp (List.all_eq_true.mp (List.all_eq_true.mp h P (List.mem_range.mpr (by omega))) m (List.mem_range.mpr hm)) p (List.mem_range.mpr hp))
theorem ntM_lt {m : Nat} : ntM P m < 2 ^ P := by
  unfold ntM
  have := Nat.two_pow_pos P
  omega
theorem bit_nat {m p : Nat} (hm : m < 256) (hp : p < 8) : (bit (nI m) (nI p) = nI 1) = (m.testBit p = true) := by
  have h : (List.range 256).all (fun m => (List.range 8).all (fun p => decide (bit (nI m) (nI p) = nI 1) == m.testBit p)) = true := by decide +kernel
  have := eq_of_beq (List.all_eq_true.mp (List.all_eq_true.mp h m (List.mem_range.mpr hm)) p (List.mem_range.mpr hp))
  rw [← this, decide_eq_true_eq]
theorem set_bit {m p : Nat} (hp : p < 8) (hm : m < 2 ^ p) : nI m ||| nI 1 <<< (nI p &&& 31) = nI (m + 2 ^ p) := by
  have h : (List.range 8).all (fun p => (List.range (2 ^ p)).all (fun m => nI m ||| nI 1 <<< (nI p &&& 31) == nI (m + 2 ^ p))) = true := by decide +kernel
  exact eq_of_beq (List.all_eq_true.mp (List.all_eq_true.mp h p (List.mem_range.mpr hp)) m (List.mem_range.mpr hm))
def mkM (f : Nat → Bool) : Nat → Nat
  | 0 => 0
  | p + 1 => mkM f p + (if f p = true then 2 ^ p else 0)
theorem mkM_lt {f : Nat → Bool} : ∀ p, mkM f p < 2 ^ p := by
  intro p
  induction p with
  | zero => show (0 : Nat) < 1; omega
  | succ p ih =>
    show mkM f p + (if f p = true then 2 ^ p else 0) < 2 ^ (p + 1)
    rw [Nat.pow_succ]
    split <;> omega
theorem mkM_bit {f : Nat → Bool} : ∀ n p, p < n → (mkM f n).testBit p = f p := by
  intro n
  induction n with
  | zero => intro p hp; omega
  | succ n ih =>
    intro p hp
    show (mkM f n + (if f n = true then 2 ^ n else 0)).testBit p = f p
    by_cases e : p = n
    · subst e
      have h0 : (mkM f p).testBit p = false := Nat.testBit_lt_two_pow (mkM_lt p)
      cases q : f p
      · rw [if_neg (by decide), Nat.add_zero, h0]
      · rw [if_pos rfl, Nat.add_comm, Nat.testBit_two_pow_add_eq, h0]
        rfl
    · cases q : f n
      · rw [if_neg (by decide), Nat.add_zero]
        exact ih p (by omega)
      · rw [if_pos rfl, Nat.add_comm, Nat.testBit_two_pow_add_gt (by omega)]
        exact ih p (by omega)
/-- a leaf, of a PERSON -/
def meS (l : Nat → Nat → Int32) (y p : Nat) : Int32 := if y = 16 then l 1 p else if y = 17 then l 2 p else if y = 18 then rsum (l 5) (p * 8) 8 0 else if y = 19 then csum (l 5) p 8 0 else nI p
def cmS (sg : Nat) (m : Int32) (n : Nat) : Bool := if sg = 60 then decide (m < nI n) else if sg = 61 then decide (m = nI n) else decide (nI n < m)
def lfT (l k : Nat → Nat → Int32) (z : SC) (p : Nat) : Bool := if z.1 = 14 then decide (bit (l 9 0) (nI p) = 1) else if z.1 = 3 then decide (bit (k 9 0) (nI p) = 1) else if z.1 = 4 then decide (bit (k 10 0) (nI p) = 1) else if z.1 = 15 then decide (bit (l 7 z.2.2) (nI p) = 1) else if z.1 = 1 then decide (nI 0 < l 5 (p * 8 + z.2.2)) else cmS z.2.1 (meS l z.1 p) z.2.2
/-- the sets, the last first -/
def evM (P : Nat) (l k : Nat → Nat → Int32) : List SC → List Nat → List Nat
  | [], ms => ms
  | z :: r, ms => if z.1 = 13 then (match ms with
      | a :: q => evM P l k r (ntM P a :: q)
      | [] => []) else if z.1 = 12 then (match ms with
      | b :: a :: q => evM P l k r ((a &&& b) :: q)
      | _ => []) else if z.1 = 11 then (match ms with
      | b :: a :: q => evM P l k r ((a ||| b) :: q)
      | _ => []) else evM P l k r (mkM (lfT l k z) P :: ms)
theorem evM_cons (z : SC) (r : List SC) (ms : List Nat) : evM P l k (z :: r) ms = if z.1 = 13 then (match ms with
      | a :: q => evM P l k r (ntM P a :: q)
      | [] => []) else if z.1 = 12 then (match ms with
      | b :: a :: q => evM P l k r ((a &&& b) :: q)
      | _ => []) else if z.1 = 11 then (match ms with
      | b :: a :: q => evM P l k r ((a ||| b) :: q)
      | _ => []) else evM P l k r (mkM (lfT l k z) P :: ms) := rfl
def okM (P : Nat) (ms : List Nat) : Prop := ∀ m ∈ ms, m < 2 ^ P
theorem evM_ok : ∀ (L : List SC) (ms : List Nat) (h : Nat), hgS L ms.length = some h → okM P ms → (evM P l k L ms).length = h ∧ okM P (evM P l k L ms) := by
  intro L
  induction L with
  | nil => intro ms h e ok; injection e with e; exact ⟨e, ok⟩
  | cons z r ih =>
    intro ms h e ok
    rw [hgS_cons] at e
    unfold evM
    by_cases q13 : z.1 = 13
    · rw [if_pos q13] at e ⊢
      cases ms with
      | nil => rw [if_neg (by decide)] at e; cases e
      | cons a q =>
        rw [if_pos (by show 1 ≤ q.length + 1; omega)] at e
        exact ih (ntM P a :: q) h e (fun m hm => by
          rcases List.mem_cons.mp hm with rfl | hm
          · exact ntM_lt
          · exact ok m (List.mem_cons_of_mem _ hm))
    · rw [if_neg q13] at e ⊢
      by_cases q2 : z.1 = 12 ∨ z.1 = 11
      · rw [if_pos q2] at e
        match ms, ok, e with
        | [], _, e => rw [if_neg (by decide)] at e; cases e
        | [a], _, e => rw [if_neg (show ¬ 2 ≤ [a].length from (by show ¬ 2 ≤ 1; omega))] at e; cases e
        | b :: a :: q, ok, e =>
          rw [if_pos (by show 2 ≤ q.length + 1 + 1; omega)] at e
          have hb : b < 2 ^ P := ok b (List.mem_cons_self)
          have ha : a < 2 ^ P := ok a (List.mem_cons_of_mem _ (List.mem_cons_self))
          have hq : ∀ m ∈ q, m < 2 ^ P := fun m hm => ok m (List.mem_cons_of_mem _ (List.mem_cons_of_mem _ hm))
          have e : hgS r (q.length + 1) = some h := e
          by_cases q12 : z.1 = 12
          · rw [if_pos q12]
            exact ih ((a &&& b) :: q) h e (fun m hm => by
              rcases List.mem_cons.mp hm with rfl | hm
              · exact Nat.and_lt_two_pow a hb
              · exact hq m hm)
          · rw [if_neg q12, if_pos (q2.resolve_left q12)]
            exact ih ((a ||| b) :: q) h e (fun m hm => by
              rcases List.mem_cons.mp hm with rfl | hm
              · exact Nat.or_lt_two_pow ha hb
              · exact hq m hm)
      · rw [if_neg q2] at e
        rw [if_neg (fun q => q2 (Or.inl q)), if_neg (fun q => q2 (Or.inr q))]
        exact ih (mkM (lfT l k z) P :: ms) h e (fun m hm => by
          rcases List.mem_cons.mp hm with rfl | hm
          · exact mkM_lt P
          · exact ok m hm)
/-- how many, and the k-th -/
def cntT (m : Nat) : Nat → Nat → Nat
  | 0, _ => 0
  | r + 1, p => (if m.testBit p = true then 1 else 0) + cntT m r (p + 1)
def nthT (m : Nat) (x : Int32) : Nat → Nat → Nat → Int32
  | 0, _, _ => mi1
  | r + 1, p, c => if m.testBit p = true then (if nI c = x then nI p else nthT m x r (p + 1) (c + 1)) else nthT m x r (p + 1) c
def saidV (P m : Nat) (x : Int32) : Int32 := if x = mi1 then nI (cntT m P 0) else nthT m x P 0 0
theorem cnt_pc (hP : P ≤ 8) {m : Nat} (hm : m < 2 ^ P) : cntT m P 0 = pcN m := by
  have h : (List.range 9).all (fun P => (List.range (2 ^ P)).all (fun m => cntT m P 0 == pcN m)) = true := by decide +kernel
  exact eq_of_beq (List.all_eq_true.mp (List.all_eq_true.mp h P (List.mem_range.mpr (by omega))) m (List.mem_range.mpr hm))
end SDA
