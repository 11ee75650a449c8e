/-! THE LAW'S BODY: one call of both -/
section LWB
variable {L n sl i : Nat} {xs : Nat → Int32} {X : mX} {Y : mY} {w : ai_L} {Z : ai_C → Prop}
/-- in the loop: no cells are made; the script -/
def lG (L : Nat) (xs : Nat → Int32) : ai_G := (false, L, xs)
def lL (i : Nat) (w : ai_L) : ai_L := some (.ref 1000000) :: some (.ref 0) :: some (.ref 199) :: some (.ref 230) :: some (.int (nI i)) :: w
def ckL (l : List (Nat × Instr × Nat)) : Bool := l.all (fun e => decide (ai_dec ET 289 e.1 = some e.2))
theorem ckL_mem {l : List (Nat × Instr × Nat)} (h : ckL l = true) {q : Nat} {i : Instr} {len : Nat} (hm : (q, i, len) ∈ l) : ai_dec ET 289 q = some (i, len) := by
  have h1 := List.all_eq_true.mp h _ hm
  rw [decide_eq_true_eq] at h1
  dsimp only at h1
  exact h1
theorem ckL_app {a b : List (Nat × Instr × Nat)} (h : ckL (a ++ b) = true) : ckL a = true ∧ ckL b = true := by
  unfold ckL at h ⊢
  rw [List.all_append, Bool.and_eq_true] at h
  exact h
theorem ckL_cons {e : Nat × Instr × Nat} {b : List (Nat × Instr × Nat)} (h : ckL (e :: b) = true) : ai_dec ET 289 e.1 = some e.2 ∧ ckL b = true := by
  unfold ckL at h ⊢
  rw [List.all_cons, Bool.and_eq_true, decide_eq_true_eq] at h
  exact h
def argL : Nat → Nat → Nat → List (Nat × Instr × Nat)
  | _, _, 0 => []
  | q, j, a + 1 => (q, .aload_n 0, 1) :: (q + 1, .iload 4, 2) :: (q + 3, .iconst (j : Int), 1) :: (q + 4, .iadd, 1) :: (q + 5, .iaload, 1) :: argL (q + 6) (j + 1) a
def argV (xs : Nat → Int32) (i : Nat) : Nat → Nat → List Value → List Value
  | _, 0, st => st
  | j, a + 1, st => argV xs i (j + 1) a (.int (xs (i + j)) :: st)
theorem ofInt_6 : ∀ j : Nat, j < 7 → Int32.ofInt (j : Int) = nI j := by decide +kernel
theorem awi_args (hL : L ≤ 3072) {M : ai_M} : ∀ (a q j : Nat) (st : List Value), ckL (argL q j a) = true → i + j + a ≤ L → j + a ≤ 6 → awi ET (lG L xs) 61 289 (q + 6 * a, lL i w, argV xs i j a st, 231, sl, M) Z → awi ET (lG L xs) 61 289 (q, lL i w, st, 231, sl, M) Z := by
  intro a
  induction a with
  | zero => intro q j st _ _ _ h; exact h
  | succ a ih =>
    intro q j st hc hb hj h
    unfold argL at hc
    obtain ⟨c0, hc⟩ := ckL_cons hc
    obtain ⟨c1, hc⟩ := ckL_cons hc
    obtain ⟨c2, hc⟩ := ckL_cons hc
    obtain ⟨c3, hc⟩ := ckL_cons hc
    obtain ⟨c4, hc⟩ := ckL_cons hc
    refine awi_p c0 rfl rfl ?_
    show awi ET (lG L xs) 61 289 (q + 1, lL i w, .ref 1000000 :: st, 231, sl, M) Z
    refine awi_p c1 rfl rfl ?_
    show awi ET (lG L xs) 61 289 (q + 3, lL i w, .int (nI i) :: .ref 1000000 :: st, 231, sl, M) Z
    refine awi_p c2 rfl rfl ?_
    show awi ET (lG L xs) 61 289 (q + 4, lL i w, .int (Int32.ofInt (j : Int)) :: .int (nI i) :: .ref 1000000 :: st, 231, sl, M) Z
    rw [ofInt_6 j (by omega)]
    refine awi_p c3 rfl rfl ?_
    show awi ET (lG L xs) 61 289 (q + 5, lL i w, .int (nI i + nI j) :: .ref 1000000 :: st, 231, sl, M) Z
    rw [nI_add]
    refine awi_m c4 rfl rfl ?_
    simp only [ai_m]
    have hib : ai_ib (nI (i + j)) (lG L xs).2.1 = true := ib_nI (N := L) (show i + j < L by omega) (by omega)
    rw [if_neg (by decide), if_pos ⟨trivial, hib⟩, nI_clamp (by omega)]
    show awi ET (lG L xs) 61 289 (q + 6, lL i w, .int (xs (i + j)) :: st, 231, sl, M) Z
    refine ih (q + 6) (j + 1) _ hc (by omega) (by omega) ?_
    rw [show q + 6 + 6 * a = q + 6 * (a + 1) by omega]
    exact h
/-- what stands at a case: the class's call, the reference's, are they one? -/
def opL (q a jT jR : Nat) : List (Nat × Instr × Nat) := (q, .aload_n 1, 1) :: (argL (q + 1) 1 a ++ ((q + 1 + 6 * a, .invokevirtual jT, 3) :: (q + 4 + 6 * a, .aload_n 2, 1) :: (argL (q + 5 + 6 * a) 1 a ++ [(q + 5 + 12 * a, .invokevirtual jR, 3), (q + 8 + 12 * a, .if_icmp .eq (1577 - ((q + 8 + 12 * a : Nat) : Int)), 3)])))
theorem op_run {q a jT jR mT mR : Nat} {LT LR : ai_L} (hL : L ≤ 3072) (hb : i + 1 + a ≤ L) (ha : a ≤ 5) (hc : ckL (opL q a jT jR) = true) (pT : ai_pool ET 13 jT = some (1, mT, a, 0)) (pR : ai_pool ET 13 jR = some (1, mR, a, 0))
    (tT : ∀ X Y, ai_this ET 231 (mem X Y) mT a (argV xs i 1 a [.ref 0]) = true) (tR : ∀ X Y v, ai_this ET 231 (mem X Y) mR a (argV xs i 1 a [.ref 199, .int v]) = true)
    (gT : a + 1 ≤ (argV xs i 1 a [.ref 0]).length ∧ ai_sm ((argV xs i 1 a [.ref 0]).drop (a + 1)) ≤ 8 ∧ (ai_ar ((argV xs i 1 a [.ref 0]).take (a + 1)).reverse).length ≤ ai_mx ET mT ∧ ai_mx ET mT ≤ 41) (gR : ∀ v, a + 1 ≤ (argV xs i 1 a [.ref 199, .int v]).length ∧ ai_sm ((argV xs i 1 a [.ref 199, .int v]).drop (a + 1)) ≤ 8 ∧ (ai_ar ((argV xs i 1 a [.ref 199, .int v]).take (a + 1)).reverse).length ≤ ai_mx ET mR ∧ ai_mx ET mR ≤ 41)
    (dT : (argV xs i 1 a [.ref 0]).drop (a + 1) = []) (dR : ∀ v, (argV xs i 1 a [.ref 199, .int v]).drop (a + 1) = [.int v])
    (eT : ai_en ((argV xs i 1 a [.ref 0]).take (a + 1)).reverse (ai_mx ET mT) = LT) (eR : ∀ v, ai_en ((argV xs i 1 a [.ref 199, .int v]).take (a + 1)).reverse (ai_mx ET mR) = LR)
    (hp : PO (lG L xs) sl n mT mR LT LR X Y) (hz : ∀ X' Y', WW (n + 1) X' Y' → awi ET (lG L xs) 61 289 (1577, lL i w, [], 231, sl, mem X' Y') Z) : awi ET (lG L xs) 61 289 (q, lL i w, [], 231, sl, mem X Y) Z := by
  unfold opL at hc
  obtain ⟨c0, hc⟩ := ckL_cons hc
  obtain ⟨c1, hc⟩ := ckL_app hc
  obtain ⟨c2, hc⟩ := ckL_cons hc
  obtain ⟨c3, hc⟩ := ckL_cons hc
  obtain ⟨c4, hc⟩ := ckL_app hc
  obtain ⟨c5, hc⟩ := ckL_cons hc
  obtain ⟨c6, -⟩ := ckL_cons hc
  refine awi_p c0 rfl rfl ?_
  show awi ET (lG L xs) 61 289 (q + 1, lL i w, [.ref 0], 231, sl, mem X Y) Z
  refine awi_args hL a (q + 1) 1 _ c1 (by omega) (by omega) ?_
  refine awi_call (d := 60) c2 (by rw [ow289]; exact pT) (tT X Y) gT ?_
  rw [eT]
  refine aw_imp hp (fun r n1 sl1 M1 hq => ?_)
  obtain ⟨rfl, rfl, v, rfl, ⟨X1, Y1, rfl⟩, hr⟩ := hq
  rw [dT]
  show awi ET (lG L xs) 61 289 (q + 1 + 6 * a + 3, lL i w, [.int v], 231, sl1, mem X1 Y1) Z
  rw [show q + 1 + 6 * a + 3 = q + 4 + 6 * a by omega]
  refine awi_p c3 rfl rfl ?_
  show awi ET (lG L xs) 61 289 (q + 4 + 6 * a + 1, lL i w, [.ref 199, .int v], 231, sl1, mem X1 Y1) Z
  rw [show q + 4 + 6 * a + 1 = q + 5 + 6 * a by omega]
  refine awi_args hL a (q + 5 + 6 * a) 1 _ c4 (by omega) (by omega) ?_
  rw [show q + 5 + 6 * a + 6 * a = q + 5 + 12 * a by omega]
  refine awi_call (d := 60) c5 (by rw [ow289]; exact pR) (tR X1 Y1 v) (gR v) ?_
  rw [eR v]
  refine aw_imp hr (fun r n1 sl1 M1 hq => ?_)
  obtain ⟨rfl, rfl, rfl, X', Y', rfl, hw⟩ := hq
  rw [dR v]
  show awi ET (lG L xs) 61 289 (q + 5 + 12 * a + 3, lL i w, [.int v, .int v], 231, sl1, mem X' Y') Z
  rw [show q + 5 + 12 * a + 3 = q + 8 + 12 * a by omega]
  refine awi_p c6 rfl rfl ?_
  simp only [ai_p, ai_2i, ai_cn, ai_j, if_true]
  have e : ((q + 8 + 12 * a : Nat) : Int) + (1577 - ((q + 8 + 12 * a : Nat) : Int)) = 1577 := by omega
  rw [e, if_pos (by decide)]
  exact hz X' Y' hw
end LWB
