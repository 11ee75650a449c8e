/-! THE TEXT OF A TOWN: what it comes to; the class, I -/
section TWL
variable {G : ai_G} {d sl : Nat} {Q : List Value → Nat → Nat → ai_M → Prop} {Y : mY} {X : mX} {t : Nat → Nat} {n lim i p P S : Nat} {f : Nat → Int32} {g : Nat → Int64} {flt : Int32} {nm : Nat → List Nat}
/-- the TOKENS' text: bytes, size, limit -/
abbrev TC : Type := (Nat → Nat) × Nat × Nat
abbrev TD : Type := (Nat → Int32) × (Nat → List Nat) × Bool × Bool
def cK (c : TC) (i : Nat) : Nat := tK c.1 c.2.1 c.2.2 i
def cA (c : TC) (i : Nat) : Nat := tA c.1 c.2.1 c.2.2 i
def cP (c : TC) (i : Nat) : Nat := tP c.1 c.2.1 c.2.2 i
def cY (c : TC) (i : Nat) : Nat := tY c.1 c.2.1 c.2.2 i
def cW (c : TC) (i : Nat) : List Nat := tW c.1 c.2.1 i
def cN (c : TC) (i : Nat) : Nat := tN c.1 c.2.1 i
def cM (c : TC) (i : Nat) : Bool := isNm c.1 c.2.1 c.2.2 i
/-- a number: it, and where it goes on; or a FAULT and where -/
def sNum (c : TC) (lo hi i : Nat) : (Nat × Nat) ⊕ (Nat × Nat) := if ¬ cK c i = 3 then .inl (1, i) else if ¬ (lo ≤ cN c i ∧ cN c i ≤ hi) then .inl (2, i) else .inr (cN c i, cA c i)
/-- one of those called so (the TOKEN stays) -/
def sOne (c : TC) (nm : Nat → List Nat) (P i : Nat) : (Nat × Nat) ⊕ Nat := if cM c i = false then .inl (1, i) else match fnd nm (cW c i) P 0 with
  | none => .inl (3, i)
  | some k => .inr k
def nmS (nm : Nat → List Nat) : Nat → List Nat := fun q => nm (8 + q)
def isOld (nm : Nat → List Nat) (P S : Nat) (w : List Nat) : Bool := (fnd nm w P 0).isSome || (fnd (nmS nm) w S 0).isSome
/-- a new name -/
def sNew (c : TC) (nm : Nat → List Nat) (P S i : Nat) : (Nat × Nat) ⊕ (List Nat × Nat) := if cM c i = false then .inl (1, i) else if isOld nm P S (cW c i) = true then .inl (3, i) else .inr (cW c i, cA c i)
def nmU (nm : Nat → List Nat) (k : Nat) (w : List Nat) : Nat → List Nat := fun q => if q = k then w else nm q
def sPerson (c : TC) (i : Nat) (D : TD) : (Nat × Nat) ⊕ (Nat × TD) :=
  if iN (D.1 0) = 8 then .inl (4, i) else match sNew c D.2.1 (iN (D.1 0)) (iN (D.1 1)) (cA c i) with
  | .inl e => .inl e
  | .inr (w, i2) => match sNum c 0 99 i2 with
    | .inl e => .inl e
    | .inr (a, i3) => match sNum c 0 24 i3 with
      | .inl e => .inl e
      | .inr (b, i4) => match sNum c 0 9 i4 with
        | .inl e => .inl e
        | .inr (z, i5) => .inr (i5, upd (upd (upd (upd D.1 (4 + iN (D.1 0)) (nI a)) (12 + iN (D.1 0)) (nI b)) (20 + iN (D.1 0)) (nI z)) 0 (nI (iN (D.1 0) + 1)), nmU D.2.1 (iN (D.1 0)) w, D.2.2)
def sNote (c : TC) (i : Nat) (D : TD) : (Nat × Nat) ⊕ (Nat × TD) :=
  match sOne c D.2.1 (iN (D.1 0)) (cA c i) with
  | .inl e => .inl e
  | .inr a => match sOne c D.2.1 (iN (D.1 0)) (cA c (cA c i)) with
    | .inl e => .inl e
    | .inr b => if a = b ∨ 0 < D.1 (68 + 8 * a + b) ∨ 0 < D.1 (68 + 8 * b + a) then .inl (3, cA c (cA c i)) else match sNum c 1 99 (cA c (cA c (cA c i))) with
      | .inl e => .inl e
      | .inr (z, i5) => .inr (i5, upd D.1 (68 + 8 * a + b) (nI z), D.2)
def sStory (c : TC) (i : Nat) (D : TD) : (Nat × Nat) ⊕ (Nat × TD) :=
  if iN (D.1 1) = 8 then .inl (4, i) else match sNew c D.2.1 (iN (D.1 0)) (iN (D.1 1)) (cA c i) with
  | .inl e => .inl e
  | .inr (w, i2) => match sOne c D.2.1 (iN (D.1 0)) i2 with
    | .inl e => .inl e
    | .inr a => match sNum c 0 99 (cA c i2) with
      | .inl e => .inl e
      | .inr (b, i4) => match sNum c 0 9 i4 with
        | .inl e => .inl e
        | .inr (z, i5) => .inr (i5, upd (upd (upd (upd D.1 (44 + iN (D.1 1)) (nI a)) (52 + iN (D.1 1)) (nI b)) (60 + iN (D.1 1)) (nI z)) 1 (nI (iN (D.1 1) + 1)), nmU D.2.1 (8 + iN (D.1 1)) w, D.2.2)
def sMark (c : TC) (i to : Nat) (D : TD) : (Nat × Nat) ⊕ (Nat × TD) :=
  match sOne c D.2.1 (iN (D.1 0)) (cA c i) with
  | .inl e => .inl e
  | .inr a => if D.1 (to + a) = 1 then .inl (3, cA c i) else .inr (cA c (cA c i), upd D.1 (to + a) 1, D.2)
def sGift (c : TC) (i : Nat) (D : TD) : (Nat × Nat) ⊕ (Nat × TD) :=
  if D.2.2.1 = true then .inl (3, i) else match sNum c 0 9 (cA c i) with
  | .inl e => .inl e
  | .inr (a, i2) => .inr (i2, upd D.1 2 (nI a), D.2.1, true, D.2.2.2)
def sRuin (c : TC) (i : Nat) (D : TD) : (Nat × Nat) ⊕ (Nat × TD) :=
  if D.2.2.2 = true then .inl (3, i) else match sNum c 1 99 (cA c i) with
  | .inl e => .inl e
  | .inr (a, i2) => .inr (i2, upd D.1 3 (nI a), D.2.1, D.2.2.1, true)
def sLine (c : TC) (i : Nat) (D : TD) : (Nat × Nat) ⊕ (Nat × TD) :=
  if cY c i = 0 then sPerson c i D else if cY c i = 1 then sNote c i D else if cY c i = 2 then sStory c i D else if cY c i = 3 then sMark c i 28 D else if cY c i = 4 then sMark c i 36 D else if cY c i = 5 then sGift c i D else if cY c i = 6 then sRuin c i D else .inl (1, i)
/-- all its LINES: how many, and what they tell -/
def sTown (c : TC) : Nat → Nat → Nat → TD → (Nat × Nat) ⊕ (Nat × TD)
  | 0, i, _, _ => .inl (1, i)
  | r + 1, i, m, D => if cK c i = 0 then .inr (m, D) else match sLine c i D with
    | .inl e => .inl e
    | .inr (i2, D2) => if ¬ cK c i2 = 59 then .inl (1, i2) else sTown c r (cA c i2) (m + 1) D2
set_option maxHeartbeats 4000000 in
theorem isNew_6 (h : RDc t n lim i f g flt) (hT : TB8 (X 1) t) (hn : n ≤ 940) (hi : i ≤ n) (hP : P ≤ 8) (hS : S ≤ 8) (hk : X 6 7 = nI P) (hk2 : X 6 8 = nI S) (hm : ∀ q, q < P → Y 7 q = lN (v5 (nm q)) ∧ WD (nm q)) (hm2 : ∀ q, q < S → Y 10 q = lN (v5 (nmS nm q)) ∧ WD (nmS nm q)) (hQ1 : isNm t n lim i = false → ∀ f', RDc t n lim i f' g 1 → Q [.int (nI 0)] 231 sl (mem (va_up X 2 f') (va_up Y 2 g))) (hQ2 : isNm t n lim i = true → isOld nm P S (tW t n i) = true → ∀ f', RDc t n lim i f' g 3 → Q [.int (nI 0)] 231 sl (mem (va_up X 2 f') (va_up Y 2 g))) (hQ3 : isNm t n lim i = true → isOld nm P S (tW t n i) = false → Q [.int (nI 1)] 231 sl (mem (va_up X 2 f) (va_up Y 2 g))) : aw ET G (d + 2) 34 0 [some (.ref 2), some (.ref 6)] [] 231 sl (mem (va_up X 2 f) (va_up Y 2 g)) Q := by
  have hnm := fun (Q : List Value → Nat → Nat → ai_M → Prop) => isName_eq (G := G) (d := d + 1) (sl := sl) (Q := Q) (Y := va_up Y 2 g) h hT hn hi
  cases e : isNm t n lim i
  · have := hQ1 e _ (RDc_flt h 1)
    simp (disch := omega) [w34_0, x34_1_2, w34_4, w34_7, w34_8, x34_9_2, w34_12, w34_13, w34_14, x34_15_2, x34_18_6, w34_21, w34_22, w34_25, w34_26, x34_27_2, x34_30_6, w34_33, w34_34, w34_37, w34_38, x34_39_2, w34_42, w34_43, w34_44, rt34, aw_st, ai_cls, ai_len, ai_p, ai_sw, ai_m, ai_c, ai_at, ai_isI, ai_isJ, ai_isA, ai_ld, ai_1i, ai_2i, ai_2l, ai_cn, ai_j, ai_set, ai_set2, ai_nl, ai_rs, ai_sm, Value.category, hk0, hk1, lits, litb, litm, litm2, List.getElem?_cons_zero, List.getElem?_cons_succ, or_n0, bit_r, fi0, fi1, fi2, fi3, nI_toInt, nI_add, pk_mul, nI_leI, nI_ltI, nI_eq, pk_sub, ib_nI, nI_clamp, va_up_self, va_up_ne, va_up_up, va_up_comm, pk_us, pk_un, upd_up, updL_up, pk_uLs, pk_uLn, b01_1, b01_0, b01_1s, b01_0s, or_b, hnm, e, refused_eq]
    exact this
  · obtain ⟨k2, ky, hwd⟩ := isNm_wd e hT hn hi
    have hg := h.2.2.2.2.2.2.2.2.1 k2
    have h3 := RDc_flt h 3
    have hcl := fun (Q : List Value → Nat → Nat → ai_M → Prop) => called_eq_6 (G := G) (d := d + 1) (sl := sl) (Q := Q) (X := va_up X 2 f) (Y := va_up Y 2 g) (nm := nm) (w := tW t n i) hP (by simpa [va_up] using hk) hwd (fun q hq => by simpa [va_up] using hm q hq)
    have hcs := fun (Q : List Value → Nat → Nat → ai_M → Prop) => storied_eq_6 (G := G) (d := d + 1) (sl := sl) (Q := Q) (X := va_up X 2 f) (Y := va_up Y 2 g) (nm := nmS nm) (w := tW t n i) hS (by simpa [va_up] using hk2) hwd (fun q hq => by simpa [va_up] using hm2 q hq)
    cases hf : fnd nm (tW t n i) P 0 with
    | none =>
      cases hf2 : fnd (nmS nm) (tW t n i) S 0 with
      | none =>
        have := hQ3 e (by unfold isOld; rw [hf, hf2]; rfl)
        simp (disch := omega) [w34_0, x34_1_2, w34_4, w34_7, w34_8, x34_9_2, w34_12, w34_13, w34_14, x34_15_2, x34_18_6, w34_21, w34_22, w34_25, w34_26, x34_27_2, x34_30_6, w34_33, w34_34, w34_37, w34_38, x34_39_2, w34_42, w34_43, w34_44, rt34, aw_st, ai_cls, ai_len, ai_p, ai_sw, ai_m, ai_c, ai_at, ai_isI, ai_isJ, ai_isA, ai_ld, ai_1i, ai_2i, ai_2l, ai_cn, ai_j, ai_set, ai_set2, ai_nl, ai_rs, ai_sm, Value.category, hk0, hk1, lits, litb, litm, litm2, List.getElem?_cons_zero, List.getElem?_cons_succ, or_n0, bit_r, fi0, fi1, fi2, fi3, nI_toInt, nI_add, pk_mul, nI_leI, nI_ltI, nI_eq, pk_sub, ib_nI, nI_clamp, va_up_self, va_up_ne, va_up_up, va_up_comm, pk_us, pk_un, upd_up, updL_up, pk_uLs, pk_uLn, b01_1, b01_0, b01_1s, b01_0s, or_b, hnm, e, hg, hcl, hcs, hf, hf2, oI]
        exact this
      | some k =>
        have hk := fnd_lt _ _ _ hf2
        have := hQ2 e (by unfold isOld; rw [hf, hf2]; rfl) _ h3
        simp (disch := omega) [w34_0, x34_1_2, w34_4, w34_7, w34_8, x34_9_2, w34_12, w34_13, w34_14, x34_15_2, x34_18_6, w34_21, w34_22, w34_25, w34_26, x34_27_2, x34_30_6, w34_33, w34_34, w34_37, w34_38, x34_39_2, w34_42, w34_43, w34_44, rt34, aw_st, ai_cls, ai_len, ai_p, ai_sw, ai_m, ai_c, ai_at, ai_isI, ai_isJ, ai_isA, ai_ld, ai_1i, ai_2i, ai_2l, ai_cn, ai_j, ai_set, ai_set2, ai_nl, ai_rs, ai_sm, Value.category, hk0, hk1, lits, litb, litm, litm2, List.getElem?_cons_zero, List.getElem?_cons_succ, or_n0, bit_r, fi0, fi1, fi2, fi3, nI_toInt, nI_add, pk_mul, nI_leI, nI_ltI, nI_eq, pk_sub, ib_nI, nI_clamp, va_up_self, va_up_ne, va_up_up, va_up_comm, pk_us, pk_un, upd_up, updL_up, pk_uLs, pk_uLn, b01_1, b01_0, b01_1s, b01_0s, or_b, hnm, e, hg, hcl, hcs, hf, hf2, oI, nI_mi1, refused_eq]
        exact this
    | some k =>
      have hk := fnd_lt _ _ _ hf
      have := hQ2 e (by unfold isOld; rw [hf]; rfl) _ h3
      simp (disch := omega) [w34_0, x34_1_2, w34_4, w34_7, w34_8, x34_9_2, w34_12, w34_13, w34_14, x34_15_2, x34_18_6, w34_21, w34_22, w34_25, w34_26, x34_27_2, x34_30_6, w34_33, w34_34, w34_37, w34_38, x34_39_2, w34_42, w34_43, w34_44, rt34, aw_st, ai_cls, ai_len, ai_p, ai_sw, ai_m, ai_c, ai_at, ai_isI, ai_isJ, ai_isA, ai_ld, ai_1i, ai_2i, ai_2l, ai_cn, ai_j, ai_set, ai_set2, ai_nl, ai_rs, ai_sm, Value.category, hk0, hk1, lits, litb, litm, litm2, List.getElem?_cons_zero, List.getElem?_cons_succ, or_n0, bit_r, fi0, fi1, fi2, fi3, nI_toInt, nI_add, pk_mul, nI_leI, nI_ltI, nI_eq, pk_sub, ib_nI, nI_clamp, va_up_self, va_up_ne, va_up_up, va_up_comm, pk_us, pk_un, upd_up, updL_up, pk_uLs, pk_uLn, b01_1, b01_0, b01_1s, b01_0s, or_b, hnm, e, hg, hcl, hf, oI, nI_mi1, refused_eq]
      exact this
end TWL
