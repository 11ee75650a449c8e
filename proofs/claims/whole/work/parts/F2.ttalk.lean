/-! TALKED: the class, its small methods, II -/
section TTM
variable {G : ai_G} {d sl : Nat} {Q : List Value → Nat → Nat → ai_M → Prop} {Y : mY} {X : mX} {P c : Nat}
/-- two TELLINGS between the same two -/
def sameT (P a b : Nat) : Bool := decide ((cdH P a = cdH P b ∧ cdW P a = cdW P b) ∨ (cdH P a = cdW P b ∧ cdW P a = cdH P b))
/-- c is none of the first m -/
def noneT (P : Nat) (f : Nat → Int32) (c : Nat) : Nat → Nat → Bool
  | 0, _ => true
  | r + 1, i => !sameT P c (iN (f i)) && noneT P f c r (i + 1)
def canT (P : Nat) (f : Nat → Int32) (c m : Nat) : Bool := decide (¬ cdH P c = cdW P c) && noneT P f c m 0
theorem cd_lt (hP : 0 < P) (hP6 : P ≤ 6) (hc : c < 108) : cdH P c < 36 ∧ cdW P c < 6 := by
  unfold cdH cdW
  have h1 : c / 3 < 36 := by omega
  have h2 := Nat.div_le_self (c / 3) P
  have h3 := Nat.mod_lt (c / 3) hP
  omega
set_option maxHeartbeats 8000000 in
theorem can_loop {m : Nat} (hP : 0 < P) (hP6 : P ≤ 6) (hp : X 42 5 = nI P) (hc : c < 108) (hm : m ≤ 3) (hf : ∀ i, i < m → ∃ q, q < 108 ∧ X 44 i = nI q) : ∀ (r i : Nat) (v6 v7 : Option Value), i + r = m → aw ET G (d + 1) 128 30 [some (.ref 42), some (.int (nI c)), some (.int (nI m)), some (.int (nI (cdH P c))), some (.int (nI (cdW P c))), some (.int (nI i)), v6, v7] [] 231 sl (mem X Y) Q = Q [.int (b01 (noneT P (X 44) c r i = true))] 231 sl (mem X Y) := by
  obtain ⟨c1, c2⟩ := cd_lt hP hP6 hc
  intro r
  induction r with
  | zero =>
    intro i v6 v7 hi
    have : i = m := by omega
    subst this
    rw [w128_30]
    simp (disch := omega) [w128_32, w128_33, w128_102, w128_103, rt128, rt128, aw_st, ai_cls, ai_len, ai_p, ai_sw, ai_m, ai_c, ai_at, ai_isI, ai_isJ, ai_isA, ai_ld, ai_1i, ai_2i, ai_2l, ai_cn, ai_j, ai_set, ai_set2, ai_nl, ai_rs, ai_sm, Value.category, hk0, hk1, lits, litb, litm, litm2, List.getElem?_cons_zero, List.getElem?_cons_succ, or_n0, bit_r, fi0, fi1, fi2, fi3, nI_toInt, nI_add, pk_mul, nI_leI, nI_ltI, nI_eq, pk_sub, ib_nI, nI_clamp, va_up_self, va_up_ne, va_up_up, va_up_comm, pk_us, pk_un, upd_up, updL_up, pk_uLs, pk_uLn, b01_1, b01_0, b01_1s, b01_0s, or_b, noneT, b01]
  | succ r ih =>
    intro i v6 v7 hi
    obtain ⟨q, hq, eq⟩ := hf i (by omega)
    obtain ⟨q1, q2⟩ := cd_lt hP hP6 hq
    have hh := fun (Q : List Value → Nat → Nat → ai_M → Prop) => hearer_eq (G := G) (d := d) (sl := sl) (Q := Q) (X := X) (Y := Y) hP hP6 hq
    have hw := fun (Q : List Value → Nat → Nat → ai_M → Prop) => whom_eq (G := G) (d := d) (sl := sl) (Q := Q) (X := X) (Y := Y) hP hP6 hq
    have hi2 := ih (i + 1) (some (.int (nI (cdH P q)))) (some (.int (nI (cdW P q)))) (by omega)
    have en : noneT P (X 44) c (r + 1) i = (!sameT P c q && noneT P (X 44) c r (i + 1)) := by rw [noneT, eq, iN_nI (by omega)]
    rw [en, w128_30]
    unfold sameT
    by_cases a : cdH P c = cdH P q <;> by_cases b : cdW P c = cdW P q <;> by_cases e : cdH P c = cdW P q <;> by_cases f : cdW P c = cdH P q <;> simp (disch := omega) [w128_32, w128_33, w128_36, x128_37_42, w128_40, w128_42, w128_43, x128_44_42, x128_47, w128_50, w128_52, x128_53_42, w128_56, w128_58, w128_59, x128_60_42, x128_63, w128_66, w128_68, w128_69, w128_71, w128_74, w128_76, w128_78, w128_81, w128_82, w128_84, w128_87, w128_89, w128_91, w128_94, w128_95, w128_96, w128_99, rt128, rt128, aw_st, ai_cls, ai_len, ai_p, ai_sw, ai_m, ai_c, ai_at, ai_isI, ai_isJ, ai_isA, ai_ld, ai_1i, ai_2i, ai_2l, ai_cn, ai_j, ai_set, ai_set2, ai_nl, ai_rs, ai_sm, Value.category, hk0, hk1, lits, litb, litm, litm2, List.getElem?_cons_zero, List.getElem?_cons_succ, or_n0, bit_r, fi0, fi1, fi2, fi3, nI_toInt, nI_add, pk_mul, nI_leI, nI_ltI, nI_eq, pk_sub, ib_nI, nI_clamp, va_up_self, va_up_ne, va_up_up, va_up_comm, pk_us, pk_un, upd_up, updL_up, pk_uLs, pk_uLn, b01_1, b01_0, b01_1s, b01_0s, or_b, mm44, hp, eq, hh, hw, a, b, e, f, show ¬ m ≤ i by omega] <;> first | rfl | (rw [hi2]; simp_all; done) | (simp_all [b01]; done) | (simp_all [b01]; exact Iff.rfl)
end TTM
