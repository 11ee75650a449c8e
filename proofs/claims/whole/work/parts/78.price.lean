/-! PRICES: the class -/
section PRC
variable {G : ai_G} {d n sl : Nat} {Q : List Value → Nat → Nat → ai_M → Prop} {l k : Nat → Nat → Int32} {P S : Nat} {Y : mY} {X : mX}
/-- the cheapest hearer for p, from q on; the best so far in st -/
def chR (k : Nat → Nat → Int32) (pr : Nat → Int32) (p : Nat) : Nat → Nat → Int32 → Int32
  | _, 0, st => st
  | q, r + 1, st => chR k pr p (q + 1) r (if ¬ q = p ∧ 0 < k 1 q ∧ (st = mi1 ∨ pr q < pr (iN st)) then nI q else st)
def wantP (l k : Nat → Nat → Int32) (pr : Nat → Int32) (P p : Nat) : Int32 := if 0 < l 1 p then chR k pr p 0 P mi1 else mi1
/-- hours wanted of q, by those from p on -/
def hsR (l k : Nat → Nat → Int32) (pr : Nat → Int32) (P q : Nat) : Nat → Nat → Int32 → Int32
  | _, 0, acc => acc
  | p, r + 1, acc => hsR l k pr P q (p + 1) r (if wantP l k pr P p = nI q then acc + l 1 p else acc)
def prN (l k : Nat → Nat → Int32) (P : Nat) (step : Int32) (pr : Nat → Int32) : Nat → Int32 := fun q => if q < P ∧ k 1 q < hsR l k pr P q 0 P 0 then pr q + step else pr q
def rzR (l k : Nat → Nat → Int32) (P : Nat) (pr : Nat → Int32) : Nat → Nat → Bool → Bool
  | _, 0, b => b
  | q, r + 1, b => rzR l k P pr (q + 1) r (if k 1 q < hsR l k pr P q 0 P 0 then true else b)
/-- rounds: prices behind the last, ahead of it, how many -/
def priR (l k : Nat → Nat → Int32) (P : Nat) (step : Int32) : Nat → (Nat → Int32) → Nat → (Nat → Int32) × (Nat → Int32) × Nat
  | 0, pr, c => (prN l k P step pr, pr, c + 1)
  | r + 1, pr, c => if rzR l k P pr 0 P false = true then priR l k P step r (prN l k P step pr) (c + 1) else (prN l k P step pr, pr, c + 1)
theorem chR_ok {pr : Nat → Int32} {p : Nat} : ∀ (r q : Nat) (st : Int32), q + r = P → (st = mi1 ∨ ∃ a, a < P ∧ st = nI a) → (chR k pr p q r st = mi1 ∨ ∃ a, a < P ∧ chR k pr p q r st = nI a) := by
  intro r
  induction r with
  | zero => intro q st hq hs; exact hs
  | succ r ih =>
    intro q st hq hs
    unfold chR
    refine ih (q + 1) _ (by omega) ?_
    split
    · exact Or.inr ⟨q, by omega, rfl⟩
    · exact hs
theorem wantP_ok {pr : Nat → Int32} (p : Nat) : wantP l k pr P p = mi1 ∨ ∃ a, a < P ∧ wantP l k pr P p = nI a := by
  unfold wantP
  split
  · exact chR_ok P 0 mi1 (by omega) (Or.inl rfl)
  · exact Or.inl rfl
set_option maxHeartbeats 4000000 in
theorem cheap_loop {pr : Nat → Int32} {p : Nat} (hP : P ≤ 8) (hm : X 38 3 = nI P) (hpr : ∀ q, q < P → X 39 q = pr q) (he : ∀ q, q < P → X 49 q = k 1 q) (hp : p < 8) : ∀ (r q : Nat) (st : Int32) (z5 : Option Value), (z5 = none ∨ ∃ v, z5 = some (.int v)) → q + r = P → (st = mi1 ∨ ∃ a, a < P ∧ st = nI a) → aw ET G d 108 5 [some (.ref 38), some (.ref 47), some (.int (nI p)), some (.int st), some (.int (nI q)), z5] [] 231 sl (mem X Y) Q = Q [.int (chR k pr p q r st)] 231 sl (mem X Y) := by
  intro r
  induction r with
  | zero =>
    intro q st z5 hz hq hs
    simp (disch := omega) [w108_1, w108_2, w108_3, w108_5, w108_7, x108_8_38, w108_11, w108_14, w108_16, w108_17, w108_20, x108_21_47, w108_24, w108_26, w108_27, w108_30, w108_31, w108_34, w108_35, w108_37, w108_39, w108_42, w108_43, w108_44, w108_47, x108_48_38, w108_51, w108_53, w108_54, x108_55_38, w108_58, w108_59, w108_60, w108_63, w108_65, w108_66, w108_69, w108_72, w108_73, rt108, aw_st, ai_cls, ai_len, ai_p, ai_sw, ai_m, ai_c, ai_at, ai_isI, ai_isJ, ai_isA, ai_ld, ai_1i, ai_2i, ai_2l, ai_cn, ai_j, ai_set, ai_set2, ai_nl, ai_rs, ai_sm, Value.category, hk0, hk1, lits, litb, litm, litm2, List.getElem?_cons_zero, List.getElem?_cons_succ, or_n0, bit_r, fi0, fi1, fi2, fi3, nI_toInt, nI_add, pk_mul, nI_leI, nI_ltI, nI_eq, pk_sub, ib_nI, nI_clamp, va_up_self, va_up_ne, va_up_up, va_up_comm, pk_us, pk_un, upd_up, updL_up, pk_uLs, pk_uLn, b01_1, b01_0, b01_1s, b01_0s, or_b, hm, show P ≤ q by omega, chR]
  | succ r ih =>
    intro q st z5 hz hq hs
    have he' := he q (by omega)
    rw [w108_5]
    by_cases c1 : q = p
    · have i1 := ih (q + 1) st (some (.int (nI 0))) (Or.inr ⟨_, rfl⟩) (by omega) hs
      subst c1
      rcases hz with rfl | ⟨v, rfl⟩ <;> simp (disch := omega) [w108_1, w108_2, w108_3, w108_7, x108_8_38, w108_11, w108_14, w108_16, w108_17, w108_20, x108_21_47, w108_24, w108_26, w108_27, w108_30, w108_31, w108_34, w108_35, w108_37, w108_39, w108_42, w108_43, w108_44, w108_47, x108_48_38, w108_51, w108_53, w108_54, x108_55_38, w108_58, w108_59, w108_60, w108_63, w108_65, w108_66, w108_69, w108_72, w108_73, rt108, aw_st, ai_cls, ai_len, ai_p, ai_sw, ai_m, ai_c, ai_at, ai_isI, ai_isJ, ai_isA, ai_ld, ai_1i, ai_2i, ai_2l, ai_cn, ai_j, ai_set, ai_set2, ai_nl, ai_rs, ai_sm, Value.category, hk0, hk1, lits, litb, litm, litm2, List.getElem?_cons_zero, List.getElem?_cons_succ, or_n0, bit_r, fi0, fi1, fi2, fi3, nI_toInt, nI_add, pk_mul, nI_leI, nI_ltI, nI_eq, pk_sub, ib_nI, nI_clamp, va_up_self, va_up_ne, va_up_up, va_up_comm, pk_us, pk_un, upd_up, updL_up, pk_uLs, pk_uLn, b01_1, b01_0, b01_1s, b01_0s, or_b, mm39, mm49, hm, show ¬ P ≤ q by omega, chR, i1]
    · rcases lt_or (nI 0) (k 1 q) with ⟨g1, g2⟩ | ⟨g1, g2⟩
      · rcases hs with rfl | ⟨a, ha, rfl⟩
        · have i1 := ih (q + 1) (nI q) (some (.int (nI 1))) (Or.inr ⟨_, rfl⟩) (by omega) (Or.inr ⟨q, by omega, rfl⟩)
          rcases hz with rfl | ⟨v, rfl⟩ <;> simp (disch := omega) [w108_1, w108_2, w108_3, w108_7, x108_8_38, w108_11, w108_14, w108_16, w108_17, w108_20, x108_21_47, w108_24, w108_26, w108_27, w108_30, w108_31, w108_34, w108_35, w108_37, w108_39, w108_42, w108_43, w108_44, w108_47, x108_48_38, w108_51, w108_53, w108_54, x108_55_38, w108_58, w108_59, w108_60, w108_63, w108_65, w108_66, w108_69, w108_72, w108_73, rt108, aw_st, ai_cls, ai_len, ai_p, ai_sw, ai_m, ai_c, ai_at, ai_isI, ai_isJ, ai_isA, ai_ld, ai_1i, ai_2i, ai_2l, ai_cn, ai_j, ai_set, ai_set2, ai_nl, ai_rs, ai_sm, Value.category, hk0, hk1, lits, litb, litm, litm2, List.getElem?_cons_zero, List.getElem?_cons_succ, or_n0, bit_r, fi0, fi1, fi2, fi3, nI_toInt, nI_add, pk_mul, nI_leI, nI_ltI, nI_eq, pk_sub, ib_nI, nI_clamp, va_up_self, va_up_ne, va_up_up, va_up_comm, pk_us, pk_un, upd_up, updL_up, pk_uLs, pk_uLn, b01_1, b01_0, b01_1s, b01_0s, or_b, mm39, mm49, hm, he', c1, g1, g2, show ¬ P ≤ q by omega, chR, i1]
        · have am : ¬ nI a = mi1 := fun e => by have := mi1_lt (v := a) (by omega); rw [e] at this; exact Int32.lt_irrefl this
          have ia : iN (nI a) = a := iN_nI (by omega)
          rcases lt_or (pr q) (pr a) with ⟨g3, g4⟩ | ⟨g3, g4⟩
          · have i1 := ih (q + 1) (nI q) (some (.int (nI 1))) (Or.inr ⟨_, rfl⟩) (by omega) (Or.inr ⟨q, by omega, rfl⟩)
            rcases hz with rfl | ⟨v, rfl⟩ <;> simp (disch := omega) [w108_1, w108_2, w108_3, w108_7, x108_8_38, w108_11, w108_14, w108_16, w108_17, w108_20, x108_21_47, w108_24, w108_26, w108_27, w108_30, w108_31, w108_34, w108_35, w108_37, w108_39, w108_42, w108_43, w108_44, w108_47, x108_48_38, w108_51, w108_53, w108_54, x108_55_38, w108_58, w108_59, w108_60, w108_63, w108_65, w108_66, w108_69, w108_72, w108_73, rt108, aw_st, ai_cls, ai_len, ai_p, ai_sw, ai_m, ai_c, ai_at, ai_isI, ai_isJ, ai_isA, ai_ld, ai_1i, ai_2i, ai_2l, ai_cn, ai_j, ai_set, ai_set2, ai_nl, ai_rs, ai_sm, Value.category, hk0, hk1, lits, litb, litm, litm2, List.getElem?_cons_zero, List.getElem?_cons_succ, or_n0, bit_r, fi0, fi1, fi2, fi3, nI_toInt, nI_add, pk_mul, nI_leI, nI_ltI, nI_eq, pk_sub, ib_nI, nI_clamp, va_up_self, va_up_ne, va_up_up, va_up_comm, pk_us, pk_un, upd_up, updL_up, pk_uLs, pk_uLn, b01_1, b01_0, b01_1s, b01_0s, or_b, mm39, mm49, hm, hpr q (by omega), hpr a ha, he', c1, g1, g2, g3, g4, am, ia, show ¬ P ≤ q by omega, chR, i1]
          · have i1 := ih (q + 1) (nI a) (some (.int (nI 1))) (Or.inr ⟨_, rfl⟩) (by omega) (Or.inr ⟨a, ha, rfl⟩)
            rcases hz with rfl | ⟨v, rfl⟩ <;> simp (disch := omega) [w108_1, w108_2, w108_3, w108_7, x108_8_38, w108_11, w108_14, w108_16, w108_17, w108_20, x108_21_47, w108_24, w108_26, w108_27, w108_30, w108_31, w108_34, w108_35, w108_37, w108_39, w108_42, w108_43, w108_44, w108_47, x108_48_38, w108_51, w108_53, w108_54, x108_55_38, w108_58, w108_59, w108_60, w108_63, w108_65, w108_66, w108_69, w108_72, w108_73, rt108, aw_st, ai_cls, ai_len, ai_p, ai_sw, ai_m, ai_c, ai_at, ai_isI, ai_isJ, ai_isA, ai_ld, ai_1i, ai_2i, ai_2l, ai_cn, ai_j, ai_set, ai_set2, ai_nl, ai_rs, ai_sm, Value.category, hk0, hk1, lits, litb, litm, litm2, List.getElem?_cons_zero, List.getElem?_cons_succ, or_n0, bit_r, fi0, fi1, fi2, fi3, nI_toInt, nI_add, pk_mul, nI_leI, nI_ltI, nI_eq, pk_sub, ib_nI, nI_clamp, va_up_self, va_up_ne, va_up_up, va_up_comm, pk_us, pk_un, upd_up, updL_up, pk_uLs, pk_uLn, b01_1, b01_0, b01_1s, b01_0s, or_b, mm39, mm49, hm, hpr q (by omega), hpr a ha, he', c1, g1, g2, g3, g4, am, ia, show ¬ P ≤ q by omega, chR, i1]
      · have i1 := ih (q + 1) st (some (.int (nI 0))) (Or.inr ⟨_, rfl⟩) (by omega) hs
        rcases hz with rfl | ⟨v, rfl⟩ <;> simp (disch := omega) [w108_1, w108_2, w108_3, w108_7, x108_8_38, w108_11, w108_14, w108_16, w108_17, w108_20, x108_21_47, w108_24, w108_26, w108_27, w108_30, w108_31, w108_34, w108_35, w108_37, w108_39, w108_42, w108_43, w108_44, w108_47, x108_48_38, w108_51, w108_53, w108_54, x108_55_38, w108_58, w108_59, w108_60, w108_63, w108_65, w108_66, w108_69, w108_72, w108_73, rt108, aw_st, ai_cls, ai_len, ai_p, ai_sw, ai_m, ai_c, ai_at, ai_isI, ai_isJ, ai_isA, ai_ld, ai_1i, ai_2i, ai_2l, ai_cn, ai_j, ai_set, ai_set2, ai_nl, ai_rs, ai_sm, Value.category, hk0, hk1, lits, litb, litm, litm2, List.getElem?_cons_zero, List.getElem?_cons_succ, or_n0, bit_r, fi0, fi1, fi2, fi3, nI_toInt, nI_add, pk_mul, nI_leI, nI_ltI, nI_eq, pk_sub, ib_nI, nI_clamp, va_up_self, va_up_ne, va_up_up, va_up_comm, pk_us, pk_un, upd_up, updL_up, pk_uLs, pk_uLn, b01_1, b01_0, b01_1s, b01_0s, or_b, mm39, mm49, hm, he', c1, g1, g2, show ¬ P ≤ q by omega, chR, i1]
theorem cheap_eq {pr : Nat → Int32} {p : Nat} (hP : P ≤ 8) (hm : X 38 3 = nI P) (hpr : ∀ q, q < P → X 39 q = pr q) (he : ∀ q, q < P → X 49 q = k 1 q) (hp : p < 8) : aw ET G d 108 0 [some (.ref 38), some (.ref 47), some (.int (nI p)), none, none, none] [] 231 sl (mem X Y) Q = Q [.int (chR k pr p 0 P mi1)] 231 sl (mem X Y) := by
  have := cheap_loop (G := G) (d := d) (sl := sl) (Q := Q) (Y := Y) hP hm hpr he hp P 0 mi1 none (Or.inl rfl) (by omega) (Or.inl rfl)
  simp (disch := omega) [w108_0, w108_1, w108_2, w108_3, aw_st, ai_cls, ai_len, ai_p, ai_sw, ai_m, ai_c, ai_at, ai_isI, ai_isJ, ai_isA, ai_ld, ai_1i, ai_2i, ai_2l, ai_cn, ai_j, ai_set, ai_set2, ai_nl, ai_rs, ai_sm, Value.category, hk0, hk1, lits, litb, litm, litm2, List.getElem?_cons_zero, List.getElem?_cons_succ, or_n0, bit_r, fi0, fi1, fi2, fi3, nI_toInt, nI_add, pk_mul, nI_leI, nI_ltI, nI_eq, pk_sub, ib_nI, nI_clamp, va_up_self, va_up_ne, va_up_up, va_up_comm, pk_us, pk_un, upd_up, updL_up, pk_uLs, pk_uLn, b01_1, b01_0, b01_1s, b01_0s, or_b]
  exact Iff.of_eq this
end PRC
