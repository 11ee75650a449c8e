/-! A SENTENCE's text: the reference, its stack -/
section RSA
variable {G : ai_G} {d sl : Nat} {Q : List Value → Nat → Nat → ai_M → Prop} {Y : mY} {X : mX} {c : TC} {i P S o : Nat} {nm : Nat → List Nat} {L : List SC} {s : List Nat} {w : Bool}
/-- the reference's numbers of words and brackets -/
def rkc (y : Nat) : Nat := if y = 13 then 20 else if y = 12 then 21 else if y = 11 then 22 else if y = 40 then 23 else if y = 14 then 0 else if y = 3 then 1 else if y = 4 then 2 else if y = 15 then 3 else if y = 1 then 4 else y - 11
def dcS : List Nat → Nat
  | [] => 1
  | a :: r => dcS r + (if a = 13 ∨ a = 40 then 1 else 0)
def rowS (R : Nat → Int32) (L : List SC) : Prop := ∀ q, q < L.length → R (3 * q) = nI (rkc (L.getD q (0, 0, 0)).1) ∧ R (3 * q + 1) = nI (L.getD q (0, 0, 0)).2.1 ∧ R (3 * q + 2) = nI (L.getD q (0, 0, 0)).2.2
def stkS (R : Nat → Int32) : List Nat → Prop
  | [] => True
  | a :: r => R r.length = nI (rkc a) ∧ stkS R r
def SR (X : mX) (L : List SC) (s : List Nat) (o : Nat) (w : Bool) : Prop := X 199 56 = nI L.length ∧ X 199 57 = nI o ∧ X 199 58 = nI s.length ∧ X 199 59 = nI (dcS s) ∧ X 199 60 = b01 (w = true) ∧ rowS (X 203) L ∧ stkS (X 225) s ∧ ∀ a ∈ s, a = 13 ∨ a = 12 ∨ a = 11 ∨ a = 40
/-- what the reference's steps leave as it was -/
def KX (X : mX) (Y : mY) (X' : mX) (Y' : mY) : Prop := (∀ k, ¬ k = 199 → ¬ k = 203 → ¬ k = 225 → X' k = X k) ∧ (∀ k, ¬ k = 199 → Y' k = Y k) ∧ ∀ j, ¬ j = 4 → ¬ (11 ≤ j ∧ j ≤ 16) → ¬ j = 18 → ¬ (56 ≤ j ∧ j ≤ 60) → X' 199 j = X 199 j
theorem KX.tr {X' X2 : mX} {Y' Y2 : mY} (h : KX X Y X' Y') (g : KX X' Y' X2 Y2) : KX X Y X2 Y2 := ⟨fun k a b e => (g.1 k a b e).trans (h.1 k a b e), fun k a => (g.2.1 k a).trans (h.2.1 k a), fun j a b e f => (g.2.2 j a b e f).trans (h.2.2 j a b e f)⟩
theorem HX.kx {X' : mX} {Y' : mY} (h : HX X Y X' Y') : KX X Y X' Y' := ⟨fun k a _ _ => h.1 k a, h.2.1, fun j a b e _ => h.2.2 j a b e⟩
/-- .. and of the text read so far nothing has changed -/
def KZ (X X' : mX) : Prop := (∀ k, ¬ k = 199 → ¬ k = 203 → ¬ k = 225 → X' k = X k) ∧ ∀ j, ¬ (56 ≤ j ∧ j ≤ 60) → X' 199 j = X 199 j
theorem KZ.tr {X' X2 : mX} (h : KZ X X') (g : KZ X' X2) : KZ X X2 := ⟨fun k a b e => (g.1 k a b e).trans (h.1 k a b e), fun j a => (g.2 j a).trans (h.2 j a)⟩
theorem KZ.kx {X' : mX} (h : KZ X X') : KX X Y X' Y := ⟨h.1, fun _ _ => rfl, fun j _ _ _ a => h.2 j a⟩
theorem KZ.rfl' : KZ X X := ⟨fun _ _ _ _ => rfl, fun _ _ => rfl⟩
theorem KZ_rdr {X' : mX} (h : RDR c i (X 199) (Y 199)) (z : KZ X X') : RDR c i (X' 199) (Y 199) := RDR_cg h (z.2 3 (by omega)) (z.2 4 (by omega)) (z.2 5 (by omega)) (z.2 11 (by omega)) (z.2 12 (by omega)) (z.2 14 (by omega))
theorem SR_h {X' : mX} {Y' : mY} (h : SR X L s o w) (f : HX X Y X' Y') : SR X' L s o w := by
  obtain ⟨h1, h2, h3, h4, h5, h6, h7, h8⟩ := h
  have e := f.2.2
  exact ⟨by rw [e 56 (by omega) (by omega) (by omega)]; exact h1, by rw [e 57 (by omega) (by omega) (by omega)]; exact h2, by rw [e 58 (by omega) (by omega) (by omega)]; exact h3, by rw [e 59 (by omega) (by omega) (by omega)]; exact h4, by rw [e 60 (by omega) (by omega) (by omega)]; exact h5, by rw [f.1 203 (by omega)]; exact h6, by rw [f.1 225 (by omega)]; exact h7, h8⟩
def coX (X : mX) (m : Nat) (k a b : Int32) : mX := va_up (va_up X 199 (upd (X 199) 56 (nI (m + 1)))) 203 (upd (upd (upd (X 203) (3 * m) k) (3 * m + 1) a) (3 * m + 2) b)
set_option maxHeartbeats 4000000 in
theorem code_eq {m : Nat} {k a b : Int32} (h : X 199 56 = nI m) (hm : m < 44) : aw ET G d 278 0 [some (.ref 199), some (.int k), some (.int a), some (.int b)] [] 231 sl (mem X Y) Q = Q [] 231 sl (mem (coX X m k a b) Y) := by
  simp (disch := omega) [w278_0, x278_1, w278_4, w278_5, x278_6, w278_9, w278_10, w278_11, w278_12, x278_13, w278_16, w278_17, x278_18, w278_21, w278_22, w278_23, w278_24, w278_25, w278_26, x278_27, w278_30, w278_31, x278_32, w278_35, w278_36, w278_37, w278_38, w278_39, w278_40, w278_41, x278_42, w278_45, w278_46, x278_47, w278_50, rt278, rt278, aw_st, ai_cls, ai_len, ai_p, ai_sw, ai_m, ai_c, ai_at, ai_isI, ai_isJ, ai_isA, ai_ld, ai_1i, ai_2i, ai_2l, ai_cn, ai_j, ai_set, ai_set2, ai_nl, ai_rs, ai_sm, Value.category, hk0, hk1, lits, litb, litm, litm2, List.getElem?_cons_zero, List.getElem?_cons_succ, or_n0, bit_r, fi0, fi1, fi2, fi3, nI_toInt, nI_add, pk_mul, nI_leI, nI_ltI, nI_eq, pk_sub, ib_nI, nI_clamp, va_up_self, va_up_ne, va_up_up, va_up_comm, pk_us, pk_un, upd_up, updL_up, pk_uLs, pk_uLn, b01_1, b01_0, b01_1s, b01_0s, or_b, mm200, mu200, mm201, mu201, mm202, mu202, mm203, mu203, mm204, mu204, mm205, mu205, mm206, mu206, mm207, mu207, mm208, mu208, mm209, mu209, mm210, mu210, mm211, mu211, mm212, mu212, mm213, mu213, mm214, mu214, mm215, mu215, mm216, mu216, mm217, mu217, mm218, mu218, mm219, mu219, mm220, mu220, mm221, mu221, mm222, mu222, mm223, mu223, mm224, mu224, mm225, mu225, mm226, mu226, mm227, mu227, mm228, mu228, mm229, mu229, mm230, mu230, h, coX]
theorem rowS_co {z : SC} (h : rowS (X 203) L) : rowS (coX X L.length (nI (rkc z.1)) (nI z.2.1) (nI z.2.2) 203) (L ++ [z]) := by
  intro q hq
  rw [List.length_append] at hq
  have hq : q < L.length + 1 := hq
  unfold coX
  rw [va_up_self]
  by_cases e : q = L.length
  · subst e
    have : (L ++ [z]).getD L.length (0, 0, 0) = z := by simp [List.getD_eq_getElem?_getD]
    rw [this]
    refine ⟨?_, ?_, ?_⟩
    · rw [pk_un (by omega), pk_un (by omega), pk_us]
    · rw [pk_un (by omega), pk_us]
    · rw [pk_us]
  · have : (L ++ [z]).getD q (0, 0, 0) = L.getD q (0, 0, 0) := by
      rw [List.getD_eq_getElem?_getD, List.getD_eq_getElem?_getD, List.getElem?_append_left (by omega)]
    rw [this]
    obtain ⟨g1, g2, g3⟩ := h q (by omega)
    refine ⟨?_, ?_, ?_⟩
    · rw [pk_un (by omega), pk_un (by omega), pk_un (by omega)]; exact g1
    · rw [pk_un (by omega), pk_un (by omega), pk_un (by omega)]; exact g2
    · rw [pk_un (by omega), pk_un (by omega), pk_un (by omega)]; exact g3
theorem SR_co {z : SC} (h : SR X L s o w) : SR (coX X L.length (nI (rkc z.1)) (nI z.2.1) (nI z.2.2)) (L ++ [z]) s o w := by
  obtain ⟨h1, h2, h3, h4, h5, h6, h7, h8⟩ := h
  have e : ∀ j, ¬ j = 56 → coX X L.length (nI (rkc z.1)) (nI z.2.1) (nI z.2.2) 199 j = X 199 j := fun j a => by
    unfold coX
    rw [va_up_ne _ _ (by omega), va_up_self, pk_un a]
  refine ⟨?_, by rw [e 57 (by omega)]; exact h2, by rw [e 58 (by omega)]; exact h3, by rw [e 59 (by omega)]; exact h4, by rw [e 60 (by omega)]; exact h5, rowS_co h6, ?_, h8⟩
  · unfold coX
    rw [va_up_ne _ _ (by omega), va_up_self, pk_us, List.length_append]
    rfl
  · have : coX X L.length (nI (rkc z.1)) (nI z.2.1) (nI z.2.2) 225 = X 225 := by unfold coX; rw [va_up_ne _ _ (by omega), va_up_ne _ _ (by omega)]
    rw [this]
    exact h7
theorem KZ_co {m : Nat} {k a b : Int32} : KZ X (coX X m k a b) := ⟨fun j a b _ => by unfold coX; rw [va_up_ne _ _ b, va_up_ne _ _ a], fun j a => by unfold coX; rw [va_up_ne _ _ (by omega), va_up_self, pk_un (by omega)]⟩
/-- the last of the stack goes -/
def poX (X : mX) (r : List Nat) (dp : Bool) : mX := va_up X 199 (if dp = true then upd (upd (X 199) 58 (nI r.length)) 59 (nI (dcS r)) else upd (X 199) 58 (nI r.length))
theorem SR_po {a : Nat} {r : List Nat} {dp : Bool} (h : SR X L (a :: r) o w) (hd : dp = decide (a = 13 ∨ a = 40)) : SR (poX X r dp) L r o w := by
  obtain ⟨h1, h2, h3, h4, h5, h6, h7, h8⟩ := h
  have e : ∀ j, ¬ j = 58 → ¬ j = 59 → poX X r dp 199 j = X 199 j := fun j a b => by
    unfold poX
    rw [va_up_self]
    split
    · rw [pk_un b, pk_un a]
    · rw [pk_un a]
  have e2 : ∀ k, ¬ k = 199 → poX X r dp k = X k := fun k a => va_up_ne _ _ a
  refine ⟨by rw [e 56 (by omega) (by omega)]; exact h1, by rw [e 57 (by omega) (by omega)]; exact h2, ?_, ?_, by rw [e 60 (by omega) (by omega)]; exact h5, by rw [e2 203 (by omega)]; exact h6, by rw [e2 225 (by omega)]; exact h7.2, fun b hb => h8 b (List.mem_cons_of_mem _ hb)⟩
  · unfold poX
    rw [va_up_self]
    split
    · rw [pk_un (by omega), pk_us]
    · rw [pk_us]
  · unfold poX
    rw [va_up_self]
    by_cases q : a = 13 ∨ a = 40
    · rw [hd, decide_eq_true q, if_pos rfl, pk_us]
    · rw [hd, decide_eq_false q, if_neg (by decide), pk_un (by omega), h4]
      show nI (dcS r + (if a = 13 ∨ a = 40 then 1 else 0)) = _
      rw [if_neg q]
      rfl
theorem KZ_po {r : List Nat} {dp : Bool} : KZ X (poX X r dp) := ⟨fun j a _ _ => va_up_ne _ _ a, fun j a => by
  unfold poX
  rw [va_up_self]
  split
  · rw [pk_un (by omega), pk_un (by omega)]
  · rw [pk_un (by omega)]⟩
theorem rkc_20 {a : Nat} (h : a = 13 ∨ a = 12 ∨ a = 11 ∨ a = 40) : (rkc a = 20 ↔ a = 13) ∧ (rkc a = 21 ↔ a = 12) ∧ (rkc a = 22 ↔ a = 11) ∧ rkc a < 24 := by
  rcases h with rfl | rfl | rfl | rfl <;> decide
set_option maxHeartbeats 8000000 in
theorem nots_wp : ∀ (s : List Nat) (L : List SC) (X : mX), SR X L s o w → L.length + s.length ≤ 44 → (∀ X', KZ X X' → SR X' (ntS L s (dcS s)).1 (ntS L s (dcS s)).2.1 o w → Q [] 231 sl (mem X' Y)) → aw ET G (d + 1) 277 0 [some (.ref 199)] [] 231 sl (mem X Y) Q := by
  intro s
  induction s with
  | nil =>
    intro L X h hl hQ
    have := hQ X KZ.rfl' h
    have h3 : X 199 58 = nI 0 := h.2.2.1
    rw [w277_0]
    simp (disch := omega) [x277_1, w277_4, w277_54, rt277, rt277, aw_st, ai_cls, ai_len, ai_p, ai_sw, ai_m, ai_c, ai_at, ai_isI, ai_isJ, ai_isA, ai_ld, ai_1i, ai_2i, ai_2l, ai_cn, ai_j, ai_set, ai_set2, ai_nl, ai_rs, ai_sm, Value.category, hk0, hk1, lits, litb, litm, litm2, List.getElem?_cons_zero, List.getElem?_cons_succ, or_n0, bit_r, fi0, fi1, fi2, fi3, nI_toInt, nI_add, pk_mul, nI_leI, nI_ltI, nI_eq, pk_sub, ib_nI, nI_clamp, va_up_self, va_up_ne, va_up_up, va_up_comm, pk_us, pk_un, upd_up, updL_up, pk_uLs, pk_uLn, b01_1, b01_0, b01_1s, b01_0s, or_b, mm200, mu200, mm201, mu201, mm202, mu202, mm203, mu203, mm204, mu204, mm205, mu205, mm206, mu206, mm207, mu207, mm208, mu208, mm209, mu209, mm210, mu210, mm211, mu211, mm212, mu212, mm213, mu213, mm214, mu214, mm215, mu215, mm216, mu216, mm217, mu217, mm218, mu218, mm219, mu219, mm220, mu220, mm221, mu221, mm222, mu222, mm223, mu223, mm224, mu224, mm225, mu225, mm226, mu226, mm227, mu227, mm228, mu228, mm229, mu229, mm230, mu230, h3]
    exact this
  | cons a r ih =>
    intro L X h hl hQ
    have hl : L.length + (r.length + 1) ≤ 44 := hl
    have h3 : X 199 58 = nI (r.length + 1) := h.2.2.1
    have h4 : X 199 59 = nI (dcS r + (if a = 13 ∨ a = 40 then 1 else 0)) := h.2.2.2.1
    have h7 : X 225 r.length = nI (rkc a) := h.2.2.2.2.2.2.1.1
    obtain ⟨k1, k2, k3, k4⟩ := rkc_20 (h.2.2.2.2.2.2.2 a (List.mem_cons_self))
    rw [w277_0]
    by_cases q : a = 13
    · subst q
      rw [if_pos (Or.inl rfl)] at h4
      have e20 : rkc 13 = 20 := rfl
      rw [e20] at h7
      have sp := SR_po (dp := true) h rfl
      have hc := fun (Q : List Value → Nat → Nat → ai_M → Prop) => code_eq (G := G) (d := d) (sl := sl) (Q := Q) (X := poX X r true) (Y := Y) (m := L.length) (k := nI 20) (a := nI 0) (b := nI 0) sp.1 (by omega)
      have ep : poX X r true = va_up X 199 (upd (upd (X 199) 58 (nI r.length)) 59 (nI (dcS r))) := rfl
      rw [ep] at hc
      simp (disch := omega) [x277_1, w277_4, w277_7, x277_8, w277_11, x277_12, w277_15, w277_16, w277_17, w277_18, w277_20, w277_23, w277_24, x277_25, w277_28, w277_29, x277_30, w277_33, w277_34, x277_35, w277_38, w277_39, x277_40, w277_43, w277_44, w277_46, w277_47, x277_48, w277_51, rt277, rt277, aw_st, ai_cls, ai_len, ai_p, ai_sw, ai_m, ai_c, ai_at, ai_isI, ai_isJ, ai_isA, ai_ld, ai_1i, ai_2i, ai_2l, ai_cn, ai_j, ai_set, ai_set2, ai_nl, ai_rs, ai_sm, Value.category, hk0, hk1, lits, litb, litm, litm2, List.getElem?_cons_zero, List.getElem?_cons_succ, or_n0, bit_r, fi0, fi1, fi2, fi3, nI_toInt, nI_add, pk_mul, nI_leI, nI_ltI, nI_eq, pk_sub, ib_nI, nI_clamp, va_up_self, va_up_ne, va_up_up, va_up_comm, pk_us, pk_un, upd_up, updL_up, pk_uLs, pk_uLn, b01_1, b01_0, b01_1s, b01_0s, or_b, mm200, mu200, mm201, mu201, mm202, mu202, mm203, mu203, mm204, mu204, mm205, mu205, mm206, mu206, mm207, mu207, mm208, mu208, mm209, mu209, mm210, mu210, mm211, mu211, mm212, mu212, mm213, mu213, mm214, mu214, mm215, mu215, mm216, mu216, mm217, mu217, mm218, mu218, mm219, mu219, mm220, mu220, mm221, mu221, mm222, mu222, mm223, mu223, mm224, mu224, mm225, mu225, mm226, mu226, mm227, mu227, mm228, mu228, mm229, mu229, mm230, mu230, h3, h4, h7, hc]
      have sc := SR_co (z := opc 13) sp
      have kz : KZ X (coX (poX X r true) L.length (nI 20) (nI 0) (nI 0)) := KZ_po.tr KZ_co
      exact ih (L ++ [opc 13]) _ sc (by rw [List.length_append]; show L.length + 1 + r.length ≤ 44; omega) (fun X' z g => hQ X' (kz.tr z) (by
        have e : ntS L (13 :: r) (dcS (13 :: r)) = ntS (L ++ [opc 13]) r (dcS r) := rfl
        rw [e]
        exact g))
    · have k20 : ¬ rkc a = 20 := fun e => q (k1.mp e)
      have := hQ X KZ.rfl' (by
        rw [ntS_no (fun r' e => q (by injection e))]
        exact h)
      simp (disch := omega) [x277_1, w277_4, w277_7, x277_8, w277_11, x277_12, w277_15, w277_16, w277_17, w277_18, w277_20, w277_54, rt277, rt277, aw_st, ai_cls, ai_len, ai_p, ai_sw, ai_m, ai_c, ai_at, ai_isI, ai_isJ, ai_isA, ai_ld, ai_1i, ai_2i, ai_2l, ai_cn, ai_j, ai_set, ai_set2, ai_nl, ai_rs, ai_sm, Value.category, hk0, hk1, lits, litb, litm, litm2, List.getElem?_cons_zero, List.getElem?_cons_succ, or_n0, bit_r, fi0, fi1, fi2, fi3, nI_toInt, nI_add, pk_mul, nI_leI, nI_ltI, nI_eq, pk_sub, ib_nI, nI_clamp, va_up_self, va_up_ne, va_up_up, va_up_comm, pk_us, pk_un, upd_up, updL_up, pk_uLs, pk_uLn, b01_1, b01_0, b01_1s, b01_0s, or_b, mm200, mu200, mm201, mu201, mm202, mu202, mm203, mu203, mm204, mu204, mm205, mu205, mm206, mu206, mm207, mu207, mm208, mu208, mm209, mu209, mm210, mu210, mm211, mu211, mm212, mu212, mm213, mu213, mm214, mu214, mm215, mu215, mm216, mu216, mm217, mu217, mm218, mu218, mm219, mu219, mm220, mu220, mm221, mu221, mm222, mu222, mm223, mu223, mm224, mu224, mm225, mu225, mm226, mu226, mm227, mu227, mm228, mu228, mm229, mu229, mm230, mu230, h3, h7, k20]
      exact this
set_option maxHeartbeats 8000000 in
theorem joins_wp {v a : Nat} (hv : (v = 21 ∧ a = 12) ∨ (v = 22 ∧ a = 11)) : ∀ (s : List Nat) (L : List SC) (X : mX), SR X L s o w → L.length + s.length ≤ 44 → (∀ X', KZ X X' → SR X' (jnS a L s).1 (jnS a L s).2 o w → Q [] 231 sl (mem X' Y)) → aw ET G (d + 1) 279 0 [some (.ref 199), some (.int (nI v))] [] 231 sl (mem X Y) Q := by
  intro s
  induction s with
  | nil =>
    intro L X h hl hQ
    have := hQ X KZ.rfl' h
    have h3 : X 199 58 = nI 0 := h.2.2.1
    rw [w279_0]
    simp (disch := omega) [x279_1, w279_4, w279_73, rt279, rt279, aw_st, ai_cls, ai_len, ai_p, ai_sw, ai_m, ai_c, ai_at, ai_isI, ai_isJ, ai_isA, ai_ld, ai_1i, ai_2i, ai_2l, ai_cn, ai_j, ai_set, ai_set2, ai_nl, ai_rs, ai_sm, Value.category, hk0, hk1, lits, litb, litm, litm2, List.getElem?_cons_zero, List.getElem?_cons_succ, or_n0, bit_r, fi0, fi1, fi2, fi3, nI_toInt, nI_add, pk_mul, nI_leI, nI_ltI, nI_eq, pk_sub, ib_nI, nI_clamp, va_up_self, va_up_ne, va_up_up, va_up_comm, pk_us, pk_un, upd_up, updL_up, pk_uLs, pk_uLn, b01_1, b01_0, b01_1s, b01_0s, or_b, mm200, mu200, mm201, mu201, mm202, mu202, mm203, mu203, mm204, mu204, mm205, mu205, mm206, mu206, mm207, mu207, mm208, mu208, mm209, mu209, mm210, mu210, mm211, mu211, mm212, mu212, mm213, mu213, mm214, mu214, mm215, mu215, mm216, mu216, mm217, mu217, mm218, mu218, mm219, mu219, mm220, mu220, mm221, mu221, mm222, mu222, mm223, mu223, mm224, mu224, mm225, mu225, mm226, mu226, mm227, mu227, mm228, mu228, mm229, mu229, mm230, mu230, h3]
    exact this
  | cons b r ih =>
    intro L X h hl hQ
    have hl : L.length + (r.length + 1) ≤ 44 := hl
    have h3 : X 199 58 = nI (r.length + 1) := h.2.2.1
    have h7 : X 225 r.length = nI (rkc b) := h.2.2.2.2.2.2.1.1
    obtain ⟨k1, k2, k3, k4⟩ := rkc_20 (h.2.2.2.2.2.2.2 b (List.mem_cons_self))
    have more : ∀ (y : Nat), b = y → (y = 12 ∨ y = 11) → jnS a L (b :: r) = jnS a (L ++ [opc y]) r → aw ET G (d + 1) 279 45 [some (.ref 199), some (.int (nI v))] [] 231 sl (mem X Y) Q := by
      intro y e hy hj
      subst e
      have sp := SR_po (dp := false) h (by rcases hy with rfl | rfl <;> rfl)
      have h7' : poX X r false 225 r.length = nI (rkc b) := h7
      have hc := fun (Q : List Value → Nat → Nat → ai_M → Prop) => code_eq (G := G) (d := d) (sl := sl) (Q := Q) (X := poX X r false) (Y := Y) (m := L.length) (k := nI (rkc b)) (a := nI 0) (b := nI 0) sp.1 (by omega)
      have ep : poX X r false = va_up X 199 (upd (X 199) 58 (nI r.length)) := rfl
      rw [ep] at hc
      simp (disch := omega) [w279_45, w279_46, x279_47, w279_50, w279_51, x279_52, w279_55, w279_56, x279_57, w279_60, x279_61, w279_64, w279_65, w279_66, x279_67, w279_70, rt279, rt279, aw_st, ai_cls, ai_len, ai_p, ai_sw, ai_m, ai_c, ai_at, ai_isI, ai_isJ, ai_isA, ai_ld, ai_1i, ai_2i, ai_2l, ai_cn, ai_j, ai_set, ai_set2, ai_nl, ai_rs, ai_sm, Value.category, hk0, hk1, lits, litb, litm, litm2, List.getElem?_cons_zero, List.getElem?_cons_succ, or_n0, bit_r, fi0, fi1, fi2, fi3, nI_toInt, nI_add, pk_mul, nI_leI, nI_ltI, nI_eq, pk_sub, ib_nI, nI_clamp, va_up_self, va_up_ne, va_up_up, va_up_comm, pk_us, pk_un, upd_up, updL_up, pk_uLs, pk_uLn, b01_1, b01_0, b01_1s, b01_0s, or_b, mm200, mu200, mm201, mu201, mm202, mu202, mm203, mu203, mm204, mu204, mm205, mu205, mm206, mu206, mm207, mu207, mm208, mu208, mm209, mu209, mm210, mu210, mm211, mu211, mm212, mu212, mm213, mu213, mm214, mu214, mm215, mu215, mm216, mu216, mm217, mu217, mm218, mu218, mm219, mu219, mm220, mu220, mm221, mu221, mm222, mu222, mm223, mu223, mm224, mu224, mm225, mu225, mm226, mu226, mm227, mu227, mm228, mu228, mm229, mu229, mm230, mu230, h3, h7, hc]
      have sc := SR_co (z := opc b) sp
      have kz : KZ X (coX (poX X r false) L.length (nI (rkc b)) (nI 0) (nI 0)) := KZ_po.tr KZ_co
      exact ih (L ++ [opc b]) _ sc (by rw [List.length_append]; show L.length + 1 + r.length ≤ 44; omega) (fun X' z g => hQ X' (kz.tr z) (by
        rw [hj]
        exact g))
    rw [w279_0]
    by_cases q12 : b = 12
    · have k21 : rkc b = 21 := k2.mpr q12
      rw [k21] at h7
      have := more 12 q12 (Or.inl rfl) (by rw [q12]; rfl)
      simp (disch := omega) [x279_1, w279_4, w279_7, x279_8, w279_11, x279_12, w279_15, w279_16, w279_17, w279_18, w279_20, rt279, rt279, aw_st, ai_cls, ai_len, ai_p, ai_sw, ai_m, ai_c, ai_at, ai_isI, ai_isJ, ai_isA, ai_ld, ai_1i, ai_2i, ai_2l, ai_cn, ai_j, ai_set, ai_set2, ai_nl, ai_rs, ai_sm, Value.category, hk0, hk1, lits, litb, litm, litm2, List.getElem?_cons_zero, List.getElem?_cons_succ, or_n0, bit_r, fi0, fi1, fi2, fi3, nI_toInt, nI_add, pk_mul, nI_leI, nI_ltI, nI_eq, pk_sub, ib_nI, nI_clamp, va_up_self, va_up_ne, va_up_up, va_up_comm, pk_us, pk_un, upd_up, updL_up, pk_uLs, pk_uLn, b01_1, b01_0, b01_1s, b01_0s, or_b, mm200, mu200, mm201, mu201, mm202, mu202, mm203, mu203, mm204, mu204, mm205, mu205, mm206, mu206, mm207, mu207, mm208, mu208, mm209, mu209, mm210, mu210, mm211, mu211, mm212, mu212, mm213, mu213, mm214, mu214, mm215, mu215, mm216, mu216, mm217, mu217, mm218, mu218, mm219, mu219, mm220, mu220, mm221, mu221, mm222, mu222, mm223, mu223, mm224, mu224, mm225, mu225, mm226, mu226, mm227, mu227, mm228, mu228, mm229, mu229, mm230, mu230, h3, h7]
      exact this
    · have k21 : ¬ rkc b = 21 := fun e => q12 (k2.mp e)
      by_cases q11 : b = 11
      · have k22 : rkc b = 22 := k3.mpr q11
        rw [k22] at h7
        rcases hv with ⟨rfl, rfl⟩ | ⟨rfl, rfl⟩
        · have := hQ X KZ.rfl' (by
            have e : jnS 12 L (b :: r) = (L, b :: r) := by rw [q11]; rfl
            rw [e]
            exact h)
          simp (disch := omega) [x279_1, w279_4, w279_7, x279_8, w279_11, x279_12, w279_15, w279_16, w279_17, w279_18, w279_20, w279_23, x279_24, w279_27, x279_28, w279_31, w279_32, w279_33, w279_34, w279_36, w279_39, w279_40, w279_42, w279_73, rt279, rt279, aw_st, ai_cls, ai_len, ai_p, ai_sw, ai_m, ai_c, ai_at, ai_isI, ai_isJ, ai_isA, ai_ld, ai_1i, ai_2i, ai_2l, ai_cn, ai_j, ai_set, ai_set2, ai_nl, ai_rs, ai_sm, Value.category, hk0, hk1, lits, litb, litm, litm2, List.getElem?_cons_zero, List.getElem?_cons_succ, or_n0, bit_r, fi0, fi1, fi2, fi3, nI_toInt, nI_add, pk_mul, nI_leI, nI_ltI, nI_eq, pk_sub, ib_nI, nI_clamp, va_up_self, va_up_ne, va_up_up, va_up_comm, pk_us, pk_un, upd_up, updL_up, pk_uLs, pk_uLn, b01_1, b01_0, b01_1s, b01_0s, or_b, mm200, mu200, mm201, mu201, mm202, mu202, mm203, mu203, mm204, mu204, mm205, mu205, mm206, mu206, mm207, mu207, mm208, mu208, mm209, mu209, mm210, mu210, mm211, mu211, mm212, mu212, mm213, mu213, mm214, mu214, mm215, mu215, mm216, mu216, mm217, mu217, mm218, mu218, mm219, mu219, mm220, mu220, mm221, mu221, mm222, mu222, mm223, mu223, mm224, mu224, mm225, mu225, mm226, mu226, mm227, mu227, mm228, mu228, mm229, mu229, mm230, mu230, h3, h7]
          exact this
        · have := more 11 q11 (Or.inr rfl) (by rw [q11]; rfl)
          simp (disch := omega) [x279_1, w279_4, w279_7, x279_8, w279_11, x279_12, w279_15, w279_16, w279_17, w279_18, w279_20, w279_23, x279_24, w279_27, x279_28, w279_31, w279_32, w279_33, w279_34, w279_36, w279_39, w279_40, w279_42, rt279, rt279, aw_st, ai_cls, ai_len, ai_p, ai_sw, ai_m, ai_c, ai_at, ai_isI, ai_isJ, ai_isA, ai_ld, ai_1i, ai_2i, ai_2l, ai_cn, ai_j, ai_set, ai_set2, ai_nl, ai_rs, ai_sm, Value.category, hk0, hk1, lits, litb, litm, litm2, List.getElem?_cons_zero, List.getElem?_cons_succ, or_n0, bit_r, fi0, fi1, fi2, fi3, nI_toInt, nI_add, pk_mul, nI_leI, nI_ltI, nI_eq, pk_sub, ib_nI, nI_clamp, va_up_self, va_up_ne, va_up_up, va_up_comm, pk_us, pk_un, upd_up, updL_up, pk_uLs, pk_uLn, b01_1, b01_0, b01_1s, b01_0s, or_b, mm200, mu200, mm201, mu201, mm202, mu202, mm203, mu203, mm204, mu204, mm205, mu205, mm206, mu206, mm207, mu207, mm208, mu208, mm209, mu209, mm210, mu210, mm211, mu211, mm212, mu212, mm213, mu213, mm214, mu214, mm215, mu215, mm216, mu216, mm217, mu217, mm218, mu218, mm219, mu219, mm220, mu220, mm221, mu221, mm222, mu222, mm223, mu223, mm224, mu224, mm225, mu225, mm226, mu226, mm227, mu227, mm228, mu228, mm229, mu229, mm230, mu230, h3, h7]
          exact this
      · have k22 : ¬ rkc b = 22 := fun e => q11 (k3.mp e)
        have := hQ X KZ.rfl' (by
          have e : jnS a L (b :: r) = (L, b :: r) := by
            rcases h.2.2.2.2.2.2.2 b (List.mem_cons_self) with rfl | rfl | rfl | rfl
            · rfl
            · exact absurd rfl q12
            · exact absurd rfl q11
            · rfl
          rw [e]
          exact h)
        simp (disch := omega) [x279_1, w279_4, w279_7, x279_8, w279_11, x279_12, w279_15, w279_16, w279_17, w279_18, w279_20, w279_23, x279_24, w279_27, x279_28, w279_31, w279_32, w279_33, w279_34, w279_36, w279_73, rt279, rt279, aw_st, ai_cls, ai_len, ai_p, ai_sw, ai_m, ai_c, ai_at, ai_isI, ai_isJ, ai_isA, ai_ld, ai_1i, ai_2i, ai_2l, ai_cn, ai_j, ai_set, ai_set2, ai_nl, ai_rs, ai_sm, Value.category, hk0, hk1, lits, litb, litm, litm2, List.getElem?_cons_zero, List.getElem?_cons_succ, or_n0, bit_r, fi0, fi1, fi2, fi3, nI_toInt, nI_add, pk_mul, nI_leI, nI_ltI, nI_eq, pk_sub, ib_nI, nI_clamp, va_up_self, va_up_ne, va_up_up, va_up_comm, pk_us, pk_un, upd_up, updL_up, pk_uLs, pk_uLn, b01_1, b01_0, b01_1s, b01_0s, or_b, mm200, mu200, mm201, mu201, mm202, mu202, mm203, mu203, mm204, mu204, mm205, mu205, mm206, mu206, mm207, mu207, mm208, mu208, mm209, mu209, mm210, mu210, mm211, mu211, mm212, mu212, mm213, mu213, mm214, mu214, mm215, mu215, mm216, mu216, mm217, mu217, mm218, mu218, mm219, mu219, mm220, mu220, mm221, mu221, mm222, mu222, mm223, mu223, mm224, mu224, mm225, mu225, mm226, mu226, mm227, mu227, mm228, mu228, mm229, mu229, mm230, mu230, h3, h7, k21, k22]
        exact this
end RSA
