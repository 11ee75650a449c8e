/-! RINGS: found, struck out by the class -/
section RNF
variable {G : ai_G} {d n sl : Nat} {Q : List Value → Nat → Nat → ai_M → Prop} {P S : Nat} {X : mX} {Y : mY}
def rlen : Option (List Nat) → Nat
  | none => 0
  | some z => z.length
/-- the PERSON at place i of a ring (its last one ahead) -/
def zr (z : List Nat) (i : Nat) : Nat := z.getD (z.length - 1 - i) 0
theorem RW_at {g : Nat → Int32} : ∀ {z : List Nat}, RW g z → ∀ i, i < z.length → g i = nI (zr z i) := by
  intro z
  induction z with
  | nil => intro _ i hi; simp at hi
  | cons a z ih =>
    intro h i hi
    by_cases e : i = z.length
    · subst e; simp [zr]; exact h.1
    · have hi2 : i < z.length := by simp at hi; omega
      rw [ih h.2 i hi2]
      unfold zr
      have : (a :: z).length - 1 - i = (z.length - 1 - i) + 1 := by simp; omega
      rw [this, List.getD_cons_succ]
theorem zr_mem {z : List Nat} {i : Nat} (hi : i < z.length) : zr z i ∈ z := by
  unfold zr
  rw [List.getD_eq_getElem?_getD, List.getElem?_eq_getElem (by omega)]
  exact List.getElem_mem _
/-- the least of two, of all notes of a ring -/
def minI (x y : Int32) : Int32 := if y < x then y else x
def lstR (f : Nat → Int32) (z : List Nat) : Nat → Nat → Int32 → Int32
  | _, 0, acc => acc
  | i, r + 1, acc => lstR f z (i + 1) r (minI acc (f (zr z i * 8 + zr z (i + 1))))
def lstZ (f : Nat → Int32) (z : List Nat) : Int32 := lstR f z 0 (z.length - 1) (f (zr z (z.length - 1) * 8 + zr z 0))
def nxt (s i : Nat) : Nat := if i + 1 < s then i + 1 else 0
def subR (z : List Nat) (v : Int32) : Nat → Nat → (Nat → Int32) → (Nat → Int32)
  | _, 0, f => f
  | i, r + 1, f => subR z v (i + 1) r (upd f (zr z i * 8 + zr z (nxt z.length i)) (f (zr z i * 8 + zr z (nxt z.length i)) - v))
def strF (f : Nat → Int32) (z : List Nat) : Nat → Int32 := subR z (lstZ f z) 0 z.length f
/-- all rings are struck out: notes, hours struck out, how many rings -/
def strk (P : Nat) : Nat → (Nat → Int32) → Int32 → Nat → (Nat → Int32) × Int32 × Nat
  | 0, f, h, c => (f, h, c)
  | r + 1, f, h, c => match ringS f P with
    | none => (f, h, c)
    | some z => strk P r (strF f z) (h + lstZ f z * nI z.length) (c + 1)
set_option maxHeartbeats 4000000 in
theorem findLeast_61 {f : Nat → Int32} {size : Nat} (hP : P ≤ 8) (kP : X 47 7 = nI P) (hf : X 66 = f) (h2 : 2 ≤ size) (hs : size ≤ P) : ∀ (c q : Nat) (g : Nat → Int32), q + c = P + 1 - size → (∀ z g', fsN (fun q => srch f P q (size - 1) [q]) q c = some z → RW g' z → Q [.int (nI size)] 231 sl (mem (va_up X 69 g') Y)) → (fsN (fun q => srch f P q (size - 1) [q]) q c = none → ∀ g', aw ET G (d + 9) 90 55 [some (.ref 61), some (.int (nI size)), some (.int (nI (P + 1 - size)))] [] 231 sl (mem (va_up X 69 g') Y) Q) → aw ET G (d + 9) 90 15 [some (.ref 61), some (.int (nI size)), some (.int (nI q))] [] 231 sl (mem (va_up X 69 g) Y) Q := by
  intro c
  induction c with
  | zero =>
    intro q g hq h1 h2
    have : q = P + 1 - size := by omega
    subst this
    have := h2 rfl g
    simp (disch := omega) [w90_1, w90_2, w90_3, x90_4_61, x90_7_47, w90_10, w90_13, w90_14, w90_15, w90_16, w90_17, w90_18, x90_19_61, x90_22_47, w90_25, w90_28, x90_29_61, w90_32, w90_33, w90_34, w90_35, w90_36, w90_37, w90_38, w90_39, w90_40, x90_41_61, w90_44, w90_47, w90_48, w90_49, w90_52, w90_58, w90_61, w90_62, rt90, aw_st, ai_cls, ai_len, ai_p, ai_sw, ai_m, ai_c, ai_at, ai_isI, ai_isJ, ai_isA, ai_ld, ai_1i, ai_2i, ai_2l, ai_cn, ai_j, ai_set, ai_set2, ai_nl, ai_rs, ai_sm, Value.category, hk0, hk1, lits, litb, litm, litm2, List.getElem?_cons_zero, List.getElem?_cons_succ, or_n0, bit_r, fi0, fi1, fi2, fi3, nI_toInt, nI_add, pk_mul, nI_leI, nI_ltI, nI_eq, pk_sub, ib_nI, nI_clamp, va_up_self, va_up_ne, va_up_up, va_up_comm, pk_us, pk_un, upd_up, updL_up, pk_uLs, pk_uLn, b01_1, b01_0, b01_1s, b01_0s, or_b, mm62, mu62, mm63, mu63, mm64, mu64, mm65, mu65, mm66, mu66, mm67, mu67, mm68, mu68, mm69, mu69, kP, show P < P + 1 - size + size by omega, show ¬ (P + 1 - size + size ≤ P) by omega]
    exact this
  | succ c ih =>
    intro q g hq h1 h2
    rw [w90_15]
    simp (disch := omega) [w90_1, w90_2, w90_3, x90_4_61, x90_7_47, w90_10, w90_13, w90_14, w90_16, w90_17, w90_18, x90_19_61, x90_22_47, w90_25, w90_28, x90_29_61, w90_32, w90_33, w90_34, w90_35, w90_36, w90_37, w90_38, w90_39, w90_40, x90_41_61, w90_44, w90_47, w90_48, w90_49, w90_52, w90_58, w90_61, w90_62, rt90, aw_st, ai_cls, ai_len, ai_p, ai_sw, ai_m, ai_c, ai_at, ai_isI, ai_isJ, ai_isA, ai_ld, ai_1i, ai_2i, ai_2l, ai_cn, ai_j, ai_set, ai_set2, ai_nl, ai_rs, ai_sm, Value.category, hk0, hk1, lits, litb, litm, litm2, List.getElem?_cons_zero, List.getElem?_cons_succ, or_n0, bit_r, fi0, fi1, fi2, fi3, nI_toInt, nI_add, pk_mul, nI_leI, nI_ltI, nI_eq, pk_sub, ib_nI, nI_clamp, va_up_self, va_up_ne, va_up_up, va_up_comm, pk_us, pk_un, upd_up, updL_up, pk_uLs, pk_uLn, b01_1, b01_0, b01_1s, b01_0s, or_b, mm62, mu62, mm63, mu63, mm64, mu64, mm65, mu65, mm66, mu66, mm67, mu67, mm68, mu68, mm69, mu69, kP, show ¬ P < q + size by omega, show q + size ≤ P by omega]
    rw [show d + 8 = (d + 8 - size) + (size - 1) + 1 by omega]
    refine closes_61 (P := P) (f := f) (fr := q) (size := size) hP kP hf (by omega) (by omega) (size - 1) [] q (upd g 0 (nI q)) _ _ (by simp; omega) (by simp; omega) (by simp [upd]) ⟨by simp [upd], trivial⟩ ?_ ?_
    · intro x hx
      have := bt_one (p := q) (q := x) (by omega) (by omega)
      rw [show (1 : Int32) = nI 1 from rfl] at this
      rw [this]
      simp
    · intro g' q3 q4 q5
      rw [show d + 8 - size + (size - 1) + 1 + 1 = d + 9 by omega]
      cases hz : srch f P q (size - 1) [q] with
      | some z =>
        have := h1 z g' (by unfold fsN; rw [hz]) (q3 z hz)
        simp (disch := omega) [w90_44, w90_47, w90_48, rt90, aw_st, ai_cls, ai_len, ai_p, ai_sw, ai_m, ai_c, ai_at, ai_isI, ai_isJ, ai_isA, ai_ld, ai_1i, ai_2i, ai_2l, ai_cn, ai_j, ai_set, ai_set2, ai_nl, ai_rs, ai_sm, Value.category, hk0, hk1, lits, litb, litm, litm2, List.getElem?_cons_zero, List.getElem?_cons_succ, or_n0, bit_r, fi0, fi1, fi2, fi3, nI_toInt, nI_add, pk_mul, nI_leI, nI_ltI, nI_eq, pk_sub, ib_nI, nI_clamp, va_up_self, va_up_ne, va_up_up, va_up_comm, pk_us, pk_un, upd_up, updL_up, pk_uLs, pk_uLn, b01_1, b01_0, b01_1s, b01_0s, or_b, b01]
        exact this
      | none =>
        simp (disch := omega) [w90_44, w90_49, w90_52, rt90, aw_st, ai_cls, ai_len, ai_p, ai_sw, ai_m, ai_c, ai_at, ai_isI, ai_isJ, ai_isA, ai_ld, ai_1i, ai_2i, ai_2l, ai_cn, ai_j, ai_set, ai_set2, ai_nl, ai_rs, ai_sm, Value.category, hk0, hk1, lits, litb, litm, litm2, List.getElem?_cons_zero, List.getElem?_cons_succ, or_n0, bit_r, fi0, fi1, fi2, fi3, nI_toInt, nI_add, pk_mul, nI_leI, nI_ltI, nI_eq, pk_sub, ib_nI, nI_clamp, va_up_self, va_up_ne, va_up_up, va_up_comm, pk_us, pk_un, upd_up, updL_up, pk_uLs, pk_uLn, b01_1, b01_0, b01_1s, b01_0s, or_b, b01]
        refine ih (q + 1) g' (by omega) ?_ ?_
        · intro z g2 e1 e2
          exact h1 z g2 (by unfold fsN; rw [hz]; exact e1) e2
        · intro e g2
          exact h2 (by unfold fsN; rw [hz]; exact e) g2
set_option maxHeartbeats 4000000 in
theorem findSize_61 {f : Nat → Int32} (hP : P ≤ 8) (kP : X 47 7 = nI P) (hf : X 66 = f) : ∀ (c size : Nat) (g : Nat → Int32) (zl : Option Value), (size + c = P + 1 ∨ (c = 0 ∧ P < size)) → 3 ≤ size → size ≤ 9 → (∀ g', (∀ z, fsN (fun s => ring1 f P s) size c = some z → RW g' z) → Q [.int (nI (rlen (fsN (fun s => ring1 f P s) size c)))] 231 sl (mem (va_up X 69 g') Y)) → aw ET G (d + 9) 90 2 [some (.ref 61), some (.int (nI size)), zl] [] 231 sl (mem (va_up X 69 g) Y) Q := by
  intro c
  induction c with
  | zero =>
    intro size g zl hc h3 h9 hQ
    have := hQ g (fun z hz => by cases hz)
    simp (disch := omega) [w90_2, w90_3, w90_1, w90_2, w90_3, x90_4_61, x90_7_47, w90_10, w90_13, w90_14, w90_16, w90_17, w90_18, x90_19_61, x90_22_47, w90_25, w90_28, x90_29_61, w90_32, w90_33, w90_34, w90_35, w90_36, w90_37, w90_38, w90_39, w90_40, x90_41_61, w90_44, w90_47, w90_48, w90_49, w90_52, w90_55, w90_58, w90_61, w90_62, rt90, aw_st, ai_cls, ai_len, ai_p, ai_sw, ai_m, ai_c, ai_at, ai_isI, ai_isJ, ai_isA, ai_ld, ai_1i, ai_2i, ai_2l, ai_cn, ai_j, ai_set, ai_set2, ai_nl, ai_rs, ai_sm, Value.category, hk0, hk1, lits, litb, litm, litm2, List.getElem?_cons_zero, List.getElem?_cons_succ, or_n0, bit_r, fi0, fi1, fi2, fi3, nI_toInt, nI_add, pk_mul, nI_leI, nI_ltI, nI_eq, pk_sub, ib_nI, nI_clamp, va_up_self, va_up_ne, va_up_up, va_up_comm, pk_us, pk_un, upd_up, updL_up, pk_uLs, pk_uLn, b01_1, b01_0, b01_1s, b01_0s, or_b, mm62, mu62, mm63, mu63, mm64, mu64, mm65, mu65, mm66, mu66, mm67, mu67, mm68, mu68, mm69, mu69, kP, show P < size by omega]
    exact this
  | succ c ih =>
    intro size g zl hc h3 h9 hQ
    have hs := ring1_short (f := f) (P := P) (size := size) (by omega) (by omega)
    rw [w90_2]
    simp (disch := omega) [w90_1, w90_3, x90_4_61, x90_7_47, w90_10, w90_13, w90_14, w90_16, w90_17, w90_18, x90_19_61, x90_22_47, w90_25, w90_28, x90_29_61, w90_32, w90_33, w90_34, w90_35, w90_36, w90_37, w90_38, w90_39, w90_40, x90_41_61, w90_44, w90_47, w90_48, w90_49, w90_52, w90_58, w90_61, w90_62, rt90, aw_st, ai_cls, ai_len, ai_p, ai_sw, ai_m, ai_c, ai_at, ai_isI, ai_isJ, ai_isA, ai_ld, ai_1i, ai_2i, ai_2l, ai_cn, ai_j, ai_set, ai_set2, ai_nl, ai_rs, ai_sm, Value.category, hk0, hk1, lits, litb, litm, litm2, List.getElem?_cons_zero, List.getElem?_cons_succ, or_n0, bit_r, fi0, fi1, fi2, fi3, nI_toInt, nI_add, pk_mul, nI_leI, nI_ltI, nI_eq, pk_sub, ib_nI, nI_clamp, va_up_self, va_up_ne, va_up_up, va_up_comm, pk_us, pk_un, upd_up, updL_up, pk_uLs, pk_uLn, b01_1, b01_0, b01_1s, b01_0s, or_b, mm62, mu62, mm63, mu63, mm64, mu64, mm65, mu65, mm66, mu66, mm67, mu67, mm68, mu68, mm69, mu69, kP, show ¬ P < size by omega]
    refine findLeast_61 (P := P) (f := f) (size := size) hP kP hf (by omega) (by omega) (P + 1 - size) 0 g (by omega) ?_ ?_
    · intro z g' e1 e2
      have e : fsN (fun s => ring1 f P s) size (c + 1) = some z := by unfold fsN; rw [hs, e1]
      have hl : z.length = size := by
        obtain ⟨fr, f1, f2, f3⟩ := fsN_some _ _ e1
        have := srch_len _ _ _ f3
        simp at this
        omega
      have := hQ g' (by rw [e]; intro z' hz'; cases hz'; exact e2)
      rw [e] at this
      simp only [rlen, hl] at this
      exact this
    · intro e1 g'
      simp (disch := omega) [w90_55, w90_58, aw_st, ai_cls, ai_len, ai_p, ai_sw, ai_m, ai_c, ai_at, ai_isI, ai_isJ, ai_isA, ai_ld, ai_1i, ai_2i, ai_2l, ai_cn, ai_j, ai_set, ai_set2, ai_nl, ai_rs, ai_sm, Value.category, hk0, hk1, lits, litb, litm, litm2, List.getElem?_cons_zero, List.getElem?_cons_succ, or_n0, bit_r, fi0, fi1, fi2, fi3, nI_toInt, nI_add, pk_mul, nI_leI, nI_ltI, nI_eq, pk_sub, ib_nI, nI_clamp, va_up_self, va_up_ne, va_up_up, va_up_comm, pk_us, pk_un, upd_up, updL_up, pk_uLs, pk_uLn, b01_1, b01_0, b01_1s, b01_0s, or_b]
      refine ih (size + 1) g' _ (by omega) (by omega) (by omega) ?_
      intro g2 p1
      have e : fsN (fun s => ring1 f P s) size (c + 1) = fsN (fun s => ring1 f P s) (size + 1) c := by rw [fsN.eq_2]; rw [hs, e1]
      have := hQ g2 (by rw [e]; exact p1)
      rw [e] at this
      exact this
theorem findRing_61 {f : Nat → Int32} (hP : P ≤ 8) (kP : X 47 7 = nI P) (hf : X 66 = f) {g : Nat → Int32} (hQ : ∀ g', (∀ z, ringS f P = some z → RW g' z) → Q [.int (nI (rlen (ringS f P)))] 231 sl (mem (va_up X 69 g') Y)) : aw ET G (d + 9) 90 0 [some (.ref 61), none, none] [] 231 sl (mem (va_up X 69 g) Y) Q := by
  simp (disch := omega) [w90_0, w90_1, aw_st, ai_cls, ai_len, ai_p, ai_sw, ai_m, ai_c, ai_at, ai_isI, ai_isJ, ai_isA, ai_ld, ai_1i, ai_2i, ai_2l, ai_cn, ai_j, ai_set, ai_set2, ai_nl, ai_rs, ai_sm, Value.category, hk0, hk1, lits, litb, litm, litm2, List.getElem?_cons_zero, List.getElem?_cons_succ, or_n0, bit_r, fi0, fi1, fi2, fi3, nI_toInt, nI_add, pk_mul, nI_leI, nI_ltI, nI_eq, pk_sub, ib_nI, nI_clamp, va_up_self, va_up_ne, va_up_up, va_up_comm, pk_us, pk_un, upd_up, updL_up, pk_uLs, pk_uLn, b01_1, b01_0, b01_1s, b01_0s, or_b]
  exact findSize_61 (P := P) (f := f) hP kP hf (P - 2) 3 g none (by omega) (by omega) (by omega) hQ
set_option maxHeartbeats 4000000 in
theorem findLeast_70 {f : Nat → Int32} {size : Nat} (hP : P ≤ 8) (kP : X 47 7 = nI P) (hf : X 75 = f) (h2 : 2 ≤ size) (hs : size ≤ P) : ∀ (c q : Nat) (g : Nat → Int32), q + c = P + 1 - size → (∀ z g', fsN (fun q => srch f P q (size - 1) [q]) q c = some z → RW g' z → Q [.int (nI size)] 231 sl (mem (va_up X 78 g') Y)) → (fsN (fun q => srch f P q (size - 1) [q]) q c = none → ∀ g', aw ET G (d + 9) 90 55 [some (.ref 70), some (.int (nI size)), some (.int (nI (P + 1 - size)))] [] 231 sl (mem (va_up X 78 g') Y) Q) → aw ET G (d + 9) 90 15 [some (.ref 70), some (.int (nI size)), some (.int (nI q))] [] 231 sl (mem (va_up X 78 g) Y) Q := by
  intro c
  induction c with
  | zero =>
    intro q g hq h1 h2
    have : q = P + 1 - size := by omega
    subst this
    have := h2 rfl g
    simp (disch := omega) [w90_1, w90_2, w90_3, x90_4_70, x90_7_47, w90_10, w90_13, w90_14, w90_15, w90_16, w90_17, w90_18, x90_19_70, x90_22_47, w90_25, w90_28, x90_29_70, w90_32, w90_33, w90_34, w90_35, w90_36, w90_37, w90_38, w90_39, w90_40, x90_41_70, w90_44, w90_47, w90_48, w90_49, w90_52, w90_58, w90_61, w90_62, rt90, aw_st, ai_cls, ai_len, ai_p, ai_sw, ai_m, ai_c, ai_at, ai_isI, ai_isJ, ai_isA, ai_ld, ai_1i, ai_2i, ai_2l, ai_cn, ai_j, ai_set, ai_set2, ai_nl, ai_rs, ai_sm, Value.category, hk0, hk1, lits, litb, litm, litm2, List.getElem?_cons_zero, List.getElem?_cons_succ, or_n0, bit_r, fi0, fi1, fi2, fi3, nI_toInt, nI_add, pk_mul, nI_leI, nI_ltI, nI_eq, pk_sub, ib_nI, nI_clamp, va_up_self, va_up_ne, va_up_up, va_up_comm, pk_us, pk_un, upd_up, updL_up, pk_uLs, pk_uLn, b01_1, b01_0, b01_1s, b01_0s, or_b, mm71, mu71, mm72, mu72, mm73, mu73, mm74, mu74, mm75, mu75, mm76, mu76, mm77, mu77, mm78, mu78, kP, show P < P + 1 - size + size by omega, show ¬ (P + 1 - size + size ≤ P) by omega]
    exact this
  | succ c ih =>
    intro q g hq h1 h2
    rw [w90_15]
    simp (disch := omega) [w90_1, w90_2, w90_3, x90_4_70, x90_7_47, w90_10, w90_13, w90_14, w90_16, w90_17, w90_18, x90_19_70, x90_22_47, w90_25, w90_28, x90_29_70, w90_32, w90_33, w90_34, w90_35, w90_36, w90_37, w90_38, w90_39, w90_40, x90_41_70, w90_44, w90_47, w90_48, w90_49, w90_52, w90_58, w90_61, w90_62, rt90, aw_st, ai_cls, ai_len, ai_p, ai_sw, ai_m, ai_c, ai_at, ai_isI, ai_isJ, ai_isA, ai_ld, ai_1i, ai_2i, ai_2l, ai_cn, ai_j, ai_set, ai_set2, ai_nl, ai_rs, ai_sm, Value.category, hk0, hk1, lits, litb, litm, litm2, List.getElem?_cons_zero, List.getElem?_cons_succ, or_n0, bit_r, fi0, fi1, fi2, fi3, nI_toInt, nI_add, pk_mul, nI_leI, nI_ltI, nI_eq, pk_sub, ib_nI, nI_clamp, va_up_self, va_up_ne, va_up_up, va_up_comm, pk_us, pk_un, upd_up, updL_up, pk_uLs, pk_uLn, b01_1, b01_0, b01_1s, b01_0s, or_b, mm71, mu71, mm72, mu72, mm73, mu73, mm74, mu74, mm75, mu75, mm76, mu76, mm77, mu77, mm78, mu78, kP, show ¬ P < q + size by omega, show q + size ≤ P by omega]
    rw [show d + 8 = (d + 8 - size) + (size - 1) + 1 by omega]
    refine closes_70 (P := P) (f := f) (fr := q) (size := size) hP kP hf (by omega) (by omega) (size - 1) [] q (upd g 0 (nI q)) _ _ (by simp; omega) (by simp; omega) (by simp [upd]) ⟨by simp [upd], trivial⟩ ?_ ?_
    · intro x hx
      have := bt_one (p := q) (q := x) (by omega) (by omega)
      rw [show (1 : Int32) = nI 1 from rfl] at this
      rw [this]
      simp
    · intro g' q3 q4 q5
      rw [show d + 8 - size + (size - 1) + 1 + 1 = d + 9 by omega]
      cases hz : srch f P q (size - 1) [q] with
      | some z =>
        have := h1 z g' (by unfold fsN; rw [hz]) (q3 z hz)
        simp (disch := omega) [w90_44, w90_47, w90_48, rt90, aw_st, ai_cls, ai_len, ai_p, ai_sw, ai_m, ai_c, ai_at, ai_isI, ai_isJ, ai_isA, ai_ld, ai_1i, ai_2i, ai_2l, ai_cn, ai_j, ai_set, ai_set2, ai_nl, ai_rs, ai_sm, Value.category, hk0, hk1, lits, litb, litm, litm2, List.getElem?_cons_zero, List.getElem?_cons_succ, or_n0, bit_r, fi0, fi1, fi2, fi3, nI_toInt, nI_add, pk_mul, nI_leI, nI_ltI, nI_eq, pk_sub, ib_nI, nI_clamp, va_up_self, va_up_ne, va_up_up, va_up_comm, pk_us, pk_un, upd_up, updL_up, pk_uLs, pk_uLn, b01_1, b01_0, b01_1s, b01_0s, or_b, b01]
        exact this
      | none =>
        simp (disch := omega) [w90_44, w90_49, w90_52, rt90, aw_st, ai_cls, ai_len, ai_p, ai_sw, ai_m, ai_c, ai_at, ai_isI, ai_isJ, ai_isA, ai_ld, ai_1i, ai_2i, ai_2l, ai_cn, ai_j, ai_set, ai_set2, ai_nl, ai_rs, ai_sm, Value.category, hk0, hk1, lits, litb, litm, litm2, List.getElem?_cons_zero, List.getElem?_cons_succ, or_n0, bit_r, fi0, fi1, fi2, fi3, nI_toInt, nI_add, pk_mul, nI_leI, nI_ltI, nI_eq, pk_sub, ib_nI, nI_clamp, va_up_self, va_up_ne, va_up_up, va_up_comm, pk_us, pk_un, upd_up, updL_up, pk_uLs, pk_uLn, b01_1, b01_0, b01_1s, b01_0s, or_b, b01]
        refine ih (q + 1) g' (by omega) ?_ ?_
        · intro z g2 e1 e2
          exact h1 z g2 (by unfold fsN; rw [hz]; exact e1) e2
        · intro e g2
          exact h2 (by unfold fsN; rw [hz]; exact e) g2
set_option maxHeartbeats 4000000 in
theorem findSize_70 {f : Nat → Int32} (hP : P ≤ 8) (kP : X 47 7 = nI P) (hf : X 75 = f) : ∀ (c size : Nat) (g : Nat → Int32) (zl : Option Value), (size + c = P + 1 ∨ (c = 0 ∧ P < size)) → 3 ≤ size → size ≤ 9 → (∀ g', (∀ z, fsN (fun s => ring1 f P s) size c = some z → RW g' z) → Q [.int (nI (rlen (fsN (fun s => ring1 f P s) size c)))] 231 sl (mem (va_up X 78 g') Y)) → aw ET G (d + 9) 90 2 [some (.ref 70), some (.int (nI size)), zl] [] 231 sl (mem (va_up X 78 g) Y) Q := by
  intro c
  induction c with
  | zero =>
    intro size g zl hc h3 h9 hQ
    have := hQ g (fun z hz => by cases hz)
    simp (disch := omega) [w90_2, w90_3, w90_1, w90_2, w90_3, x90_4_70, x90_7_47, w90_10, w90_13, w90_14, w90_16, w90_17, w90_18, x90_19_70, x90_22_47, w90_25, w90_28, x90_29_70, w90_32, w90_33, w90_34, w90_35, w90_36, w90_37, w90_38, w90_39, w90_40, x90_41_70, w90_44, w90_47, w90_48, w90_49, w90_52, w90_55, w90_58, w90_61, w90_62, rt90, aw_st, ai_cls, ai_len, ai_p, ai_sw, ai_m, ai_c, ai_at, ai_isI, ai_isJ, ai_isA, ai_ld, ai_1i, ai_2i, ai_2l, ai_cn, ai_j, ai_set, ai_set2, ai_nl, ai_rs, ai_sm, Value.category, hk0, hk1, lits, litb, litm, litm2, List.getElem?_cons_zero, List.getElem?_cons_succ, or_n0, bit_r, fi0, fi1, fi2, fi3, nI_toInt, nI_add, pk_mul, nI_leI, nI_ltI, nI_eq, pk_sub, ib_nI, nI_clamp, va_up_self, va_up_ne, va_up_up, va_up_comm, pk_us, pk_un, upd_up, updL_up, pk_uLs, pk_uLn, b01_1, b01_0, b01_1s, b01_0s, or_b, mm71, mu71, mm72, mu72, mm73, mu73, mm74, mu74, mm75, mu75, mm76, mu76, mm77, mu77, mm78, mu78, kP, show P < size by omega]
    exact this
  | succ c ih =>
    intro size g zl hc h3 h9 hQ
    have hs := ring1_short (f := f) (P := P) (size := size) (by omega) (by omega)
    rw [w90_2]
    simp (disch := omega) [w90_1, w90_3, x90_4_70, x90_7_47, w90_10, w90_13, w90_14, w90_16, w90_17, w90_18, x90_19_70, x90_22_47, w90_25, w90_28, x90_29_70, w90_32, w90_33, w90_34, w90_35, w90_36, w90_37, w90_38, w90_39, w90_40, x90_41_70, w90_44, w90_47, w90_48, w90_49, w90_52, w90_58, w90_61, w90_62, rt90, aw_st, ai_cls, ai_len, ai_p, ai_sw, ai_m, ai_c, ai_at, ai_isI, ai_isJ, ai_isA, ai_ld, ai_1i, ai_2i, ai_2l, ai_cn, ai_j, ai_set, ai_set2, ai_nl, ai_rs, ai_sm, Value.category, hk0, hk1, lits, litb, litm, litm2, List.getElem?_cons_zero, List.getElem?_cons_succ, or_n0, bit_r, fi0, fi1, fi2, fi3, nI_toInt, nI_add, pk_mul, nI_leI, nI_ltI, nI_eq, pk_sub, ib_nI, nI_clamp, va_up_self, va_up_ne, va_up_up, va_up_comm, pk_us, pk_un, upd_up, updL_up, pk_uLs, pk_uLn, b01_1, b01_0, b01_1s, b01_0s, or_b, mm71, mu71, mm72, mu72, mm73, mu73, mm74, mu74, mm75, mu75, mm76, mu76, mm77, mu77, mm78, mu78, kP, show ¬ P < size by omega]
    refine findLeast_70 (P := P) (f := f) (size := size) hP kP hf (by omega) (by omega) (P + 1 - size) 0 g (by omega) ?_ ?_
    · intro z g' e1 e2
      have e : fsN (fun s => ring1 f P s) size (c + 1) = some z := by unfold fsN; rw [hs, e1]
      have hl : z.length = size := by
        obtain ⟨fr, f1, f2, f3⟩ := fsN_some _ _ e1
        have := srch_len _ _ _ f3
        simp at this
        omega
      have := hQ g' (by rw [e]; intro z' hz'; cases hz'; exact e2)
      rw [e] at this
      simp only [rlen, hl] at this
      exact this
    · intro e1 g'
      simp (disch := omega) [w90_55, w90_58, aw_st, ai_cls, ai_len, ai_p, ai_sw, ai_m, ai_c, ai_at, ai_isI, ai_isJ, ai_isA, ai_ld, ai_1i, ai_2i, ai_2l, ai_cn, ai_j, ai_set, ai_set2, ai_nl, ai_rs, ai_sm, Value.category, hk0, hk1, lits, litb, litm, litm2, List.getElem?_cons_zero, List.getElem?_cons_succ, or_n0, bit_r, fi0, fi1, fi2, fi3, nI_toInt, nI_add, pk_mul, nI_leI, nI_ltI, nI_eq, pk_sub, ib_nI, nI_clamp, va_up_self, va_up_ne, va_up_up, va_up_comm, pk_us, pk_un, upd_up, updL_up, pk_uLs, pk_uLn, b01_1, b01_0, b01_1s, b01_0s, or_b]
      refine ih (size + 1) g' _ (by omega) (by omega) (by omega) ?_
      intro g2 p1
      have e : fsN (fun s => ring1 f P s) size (c + 1) = fsN (fun s => ring1 f P s) (size + 1) c := by rw [fsN.eq_2]; rw [hs, e1]
      have := hQ g2 (by rw [e]; exact p1)
      rw [e] at this
      exact this
theorem findRing_70 {f : Nat → Int32} (hP : P ≤ 8) (kP : X 47 7 = nI P) (hf : X 75 = f) {g : Nat → Int32} (hQ : ∀ g', (∀ z, ringS f P = some z → RW g' z) → Q [.int (nI (rlen (ringS f P)))] 231 sl (mem (va_up X 78 g') Y)) : aw ET G (d + 9) 90 0 [some (.ref 70), none, none] [] 231 sl (mem (va_up X 78 g) Y) Q := by
  simp (disch := omega) [w90_0, w90_1, aw_st, ai_cls, ai_len, ai_p, ai_sw, ai_m, ai_c, ai_at, ai_isI, ai_isJ, ai_isA, ai_ld, ai_1i, ai_2i, ai_2l, ai_cn, ai_j, ai_set, ai_set2, ai_nl, ai_rs, ai_sm, Value.category, hk0, hk1, lits, litb, litm, litm2, List.getElem?_cons_zero, List.getElem?_cons_succ, or_n0, bit_r, fi0, fi1, fi2, fi3, nI_toInt, nI_add, pk_mul, nI_leI, nI_ltI, nI_eq, pk_sub, ib_nI, nI_clamp, va_up_self, va_up_ne, va_up_up, va_up_comm, pk_us, pk_un, upd_up, updL_up, pk_uLs, pk_uLn, b01_1, b01_0, b01_1s, b01_0s, or_b]
  exact findSize_70 (P := P) (f := f) hP kP hf (P - 2) 3 g none (by omega) (by omega) (by omega) hQ
end RNF
