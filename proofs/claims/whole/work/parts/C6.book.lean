/-! A BOOK's text: what it comes to; the class, I -/
section BKA
variable {G : ai_G} {d sl : Nat} {Q : List Value → Nat → Nat → ai_M → Prop} {Y : mY} {X : mX} {c : TC} {i P S m : Nat} {flt : Int32} {nm : Nat → List Nat}
abbrev BLn : Type := Nat × Nat × Nat × Nat
abbrev BL : Type := Nat → BLn
def sTalk (c : TC) (nm : Nat → List Nat) (P S i a : Nat) : (Nat × Nat) ⊕ (Nat × BLn) :=
  if cY c i = 7 ∨ cY c i = 8 then match sOne c nm P (cA c i) with
    | .inl e => .inl e
    | .inr b => if cY c i = 7 then (match sNum c 1 24 (cA c (cA c i)) with
        | .inl e => .inl e
        | .inr (z, i4) => .inr (i4, 0, a, b, z)) else (match sOne c (nmS nm) S (cA c (cA c i)) with
        | .inl e => .inl e
        | .inr z => .inr (cA c (cA c (cA c i)), 1, a, b, z))
  else .inl (1, i)
def sBLine (c : TC) (nm : Nat → List Nat) (P S i m : Nat) : (Nat × Nat) ⊕ (Nat × BLn) :=
  if cY c i = 9 ∨ cY c i = 10 then (if m = 30 then .inl (4, i) else if cY c i = 10 then .inr (cA c i, 3, 0, 0, 0) else match sNum c 1 30 (cA c i) with
    | .inl e => .inl e
    | .inr (z, i2) => .inr (i2, 2, 0, 0, z))
  else match sOne c nm P i with
    | .inl e => .inl e
    | .inr a => if m = 30 then .inl (4, i) else sTalk c nm P S (cA c i) a
def BU (B : BL) (m : Nat) (L : BLn) : BL := fun q => if q = m then L else B q
def sBook (c : TC) (nm : Nat → List Nat) (P S : Nat) : Nat → Nat → Nat → BL → (Nat × Nat) ⊕ (Nat × BL)
  | 0, i, _, _ => .inl (1, i)
  | r + 1, i, m, B => if cK c i = 0 then .inr (m, B) else match sBLine c nm P S i m with
    | .inl e => .inl e
    | .inr (i2, L) => if ¬ cK c i2 = 59 then .inl (1, i2) else sBook c nm P S r (cA c i2) (m + 1) (BU B m L)
/-- a LINE within its bounds -/
def okL (P S : Nat) (L : BLn) : Prop := (L.1 = 0 ∧ L.2.1 < P ∧ L.2.2.1 < P ∧ 1 ≤ L.2.2.2 ∧ L.2.2.2 ≤ 24) ∨ (L.1 = 1 ∧ L.2.1 < P ∧ L.2.2.1 < P ∧ L.2.2.2 < S) ∨ (L.1 = 2 ∧ L.2.1 = 0 ∧ L.2.2.1 = 0 ∧ 1 ≤ L.2.2.2 ∧ L.2.2.2 ≤ 30) ∨ L = (3, 0, 0, 0)
def kAct (k : Nat) : Nat := if k = 0 then 7 else if k = 1 then 8 else if k = 2 then 9 else 10
def CB (X : mX) (B : BL) (m : Nat) : Prop := ∀ q, q < m → X 31 q = nI (kAct (B q).1) ∧ X 32 q = nI (B q).2.1 ∧ X 33 q = nI (B q).2.2.1 ∧ X 34 q = nI (B q).2.2.2
/-- nothing but the Reader has changed -/
def HC (X : mX) (Y : mY) (X' : mX) (Y' : mY) : Prop := (∀ k, ¬ k = 2 → X' k = X k) ∧ (∀ k, ¬ k = 2 → Y' k = Y k)
theorem HC.tr {X' X2 : mX} {Y' Y2 : mY} (h : HC X Y X' Y') (g : HC X' Y' X2 Y2) : HC X Y X2 Y2 := ⟨fun k a => (g.1 k a).trans (h.1 k a), fun k a => (g.2 k a).trans (h.2 k a)⟩
theorem HC_u {f' : Nat → Int32} {g' : Nat → Int64} : HC X Y (va_up X 2 f') (va_up Y 2 g') := ⟨fun k a => by simp only [va_up, a, if_false], fun k a => by simp only [va_up, a, if_false]⟩
theorem OKc_h {X' : mX} {Y' : mY} (ok : OKc c X) (h : HC X Y X' Y') : OKc c X' := ⟨by rw [h.1 1 (by omega)]; exact ok.1, ok.2⟩
abbrev hBad (Q : List Value → Nat → Nat → ai_M → Prop) (sl : Nat) (c : TC) (X : mX) (Y : mY) (v : Int32) (e j : Nat) : Prop := ∀ X' Y', HC X Y X' Y' → RDC c j (X' 2) (Y' 2) (nI e) → Q [.int v] 231 sl (mem X' Y')
theorem Hstep (h : RDC c i (X 2) (Y 2) flt) (ok : OKc c X) (hi : i ≤ c.2.1) (hQ : ∀ X' Y', HC X Y X' Y' → RDC c (cA c i) (X' 2) (Y' 2) flt → Q [] 231 sl (mem X' Y')) : aw ET G (d + 2) 18 0 [some (.ref 2), none] [] 231 sl (mem X Y) Q := by
  have := step_s (G := G) (d := d) (sl := sl) (Q := Q) h ok hi (fun f' g' r => hQ _ _ HC_u (by rw [va_up_self, va_up_self]; exact r))
  rw [va_id, va_id] at this
  exact this
theorem Hnum {lo hi : Nat} (h : RDC c i (X 2) (Y 2) flt) (ok : OKc c X) (hi' : i ≤ c.2.1) (h1 : lo < 1000) (h2 : hi < 1000) (hQ1 : ∀ e j, sNum c lo hi i = .inl (e, j) → hBad Q sl c X Y mi1 e j) (hQ2 : ∀ a i2, sNum c lo hi i = .inr (a, i2) → a ≤ hi → i2 ≤ c.2.1 → ∀ X' Y', HC X Y X' Y' → RDC c i2 (X' 2) (Y' 2) flt → Q [.int (nI a)] 231 sl (mem X' Y')) : aw ET G (d + 3) 38 0 [some (.ref 2), some (.int (nI lo)), some (.int (nI hi)), none] [] 231 sl (mem X Y) Q := by
  have := num_s (G := G) (d := d) (sl := sl) (Q := Q) h ok hi' h1 h2 (fun e j es f' r => hQ1 e j es _ _ HC_u (by rw [va_up_self, va_up_self]; exact r)) (fun a i2 es ha hi2 f' g' r => hQ2 a i2 es ha hi2 _ _ HC_u (by rw [va_up_self, va_up_self]; exact r))
  rw [va_id, va_id] at this
  exact this
theorem Hone (h : RDC c i (X 2) (Y 2) flt) (ok : OKc c X) (hi : i ≤ c.2.1) (hP : P ≤ 8) (hk : X 47 7 = nI P) (hm : ∀ q, q < P → Y 48 q = lN (v5 (nm q)) ∧ WD (nm q)) (hQ1 : ∀ e j, sOne c nm P i = .inl (e, j) → hBad Q sl c X Y mi1 e j) (hQ2 : ∀ k, sOne c nm P i = .inr k → k < P → Q [.int (nI k)] 231 sl (mem X Y)) : aw ET G (d + 2) 42 0 [some (.ref 2), some (.ref 47), none] [] 231 sl (mem X Y) Q := by
  have := here_47 (G := G) (d := d) (sl := sl) (Q := Q) (nm := nm) h ok hi hP hk hm (fun e j es f' r => hQ1 e j es _ _ HC_u (by rw [va_up_self, va_up_self]; exact r)) (fun k es hk => by rw [va_id, va_id]; exact hQ2 k es hk)
  rw [va_id, va_id] at this
  exact this
theorem Hperson (h : RDC c i (X 2) (Y 2) flt) (ok : OKc c X) (hi : i ≤ c.2.1) (hP : P ≤ 8) (hk : X 47 7 = nI P) (hm : ∀ q, q < P → Y 48 q = lN (v5 (nm q)) ∧ WD (nm q)) (hQ1 : ∀ e j, sOne c nm P i = .inl (e, j) → hBad Q sl c X Y mi1 e j) (hQ2 : ∀ k, sOne c nm P i = .inr k → k < P → ∀ X' Y', HC X Y X' Y' → RDC c (cA c i) (X' 2) (Y' 2) flt → Q [.int (nI k)] 231 sl (mem X' Y')) : aw ET G (d + 3) 41 0 [some (.ref 2), some (.ref 47), none] [] 231 sl (mem X Y) Q := by
  have := person_47 (G := G) (d := d) (sl := sl) (Q := Q) (nm := nm) h ok hi hP hk hm (fun e j es f' r => hQ1 e j es _ _ HC_u (by rw [va_up_self, va_up_self]; exact r)) (fun k es hk f' g' r => hQ2 k es hk _ _ HC_u (by rw [va_up_self, va_up_self]; exact r))
  rw [va_id, va_id] at this
  exact this
theorem Hstory (h : RDC c i (X 2) (Y 2) flt) (ok : OKc c X) (hi : i ≤ c.2.1) (hP : S ≤ 8) (hk : X 47 8 = nI S) (hm : ∀ q, q < S → Y 51 q = lN (v5 (nm q)) ∧ WD (nm q)) (hQ1 : ∀ e j, sOne c nm S i = .inl (e, j) → hBad Q sl c X Y mi1 e j) (hQ2 : ∀ k, sOne c nm S i = .inr k → k < S → ∀ X' Y', HC X Y X' Y' → RDC c (cA c i) (X' 2) (Y' 2) flt → Q [.int (nI k)] 231 sl (mem X' Y')) : aw ET G (d + 3) 148 0 [some (.ref 2), some (.ref 47), none] [] 231 sl (mem X Y) Q := by
  have := story_47 (G := G) (d := d) (sl := sl) (Q := Q) (nm := nm) h ok hi hP hk hm (fun e j es f' r => hQ1 e j es _ _ HC_u (by rw [va_up_self, va_up_self]; exact r)) (fun k es hk f' g' r => hQ2 k es hk _ _ HC_u (by rw [va_up_self, va_up_self]; exact r))
  rw [va_id, va_id] at this
  exact this
theorem Htake {v : Nat} (h : RDC c i (X 2) (Y 2) flt) (ok : OKc c X) (hi : i ≤ c.2.1) (hv : v < 256) (hQ1 : ¬ cK c i = v → hBad Q sl c X Y (nI 0) 1 i) (hQ2 : cK c i = v → ∀ X' Y', HC X Y X' Y' → RDC c (cA c i) (X' 2) (Y' 2) flt → Q [.int (nI 1)] 231 sl (mem X' Y')) : aw ET G (d + 3) 50 0 [some (.ref 2), some (.int (nI v))] [] 231 sl (mem X Y) Q := by
  have := take_wp (G := G) (d := d) (sl := sl) (Q := Q) (c := v) h ok.1 ok.2.1 ok.2.2 hi hv (fun e f' r => hQ1 e _ _ HC_u (by rw [va_up_self, va_up_self]; exact r)) (fun e f' g' r => hQ2 e _ _ HC_u (by rw [va_up_self, va_up_self]; exact r))
  rw [va_id, va_id] at this
  exact this
theorem Hrefused {e : Nat} (h : RDC c i (X 2) (Y 2) flt) (hQ : hBad Q sl c X Y (nI 0) e i) : aw ET G d 33 0 [some (.ref 2), some (.int (nI e))] [] 231 sl (mem X Y) Q := by
  have := refused_eq (G := G) (d := d) (sl := sl) (Q := Q) (X := X) (Y := Y) (f := X 2) (x := nI e)
  rw [va_id] at this
  rw [this]
  exact hQ _ _ ⟨fun k a => by simp only [va_up, a, if_false], fun _ _ => rfl⟩ (by rw [va_up_self]; exact RDc_flt h (nI e))
/-- a LINE put to the BOOK -/
def alX (X : mX) (m : Nat) (act a b z : Int32) : mX := va_up (va_up (va_up (va_up (va_up X 30 (upd (X 30) 4 (nI (m + 1)))) 31 (upd (X 31) m act)) 32 (upd (X 32) m a)) 33 (upd (X 33) m b)) 34 (upd (X 34) m z)
set_option maxHeartbeats 4000000 in
theorem addLine_eq {act a b z : Int32} (hm : X 30 4 = nI m) (hm2 : m < 30) (hz : ¬ z = mi1) : aw ET G d 146 0 [some (.ref 30), some (.int act), some (.int a), some (.int b), some (.int z)] [] 231 sl (mem X Y) Q = Q [.int (nI 1)] 231 sl (mem (alX X m act a b z) Y) := by
  unfold alX
  simp (disch := omega) [w146_0, w146_2, w146_3, w146_6, x146_7_30, w146_10, w146_12, w146_15, w146_16, w146_17, x146_18_30, w146_21, x146_22_30, w146_25, w146_26, w146_27, x146_28_30, w146_31, x146_32_30, w146_35, w146_36, w146_37, x146_38_30, w146_41, x146_42_30, w146_45, w146_46, w146_47, x146_48_30, w146_51, x146_52_30, w146_55, w146_57, w146_58, w146_59, x146_60_30, w146_63, w146_64, x146_65, w146_68, w146_69, rt146, aw_st, ai_cls, ai_len, ai_p, ai_sw, ai_m, ai_c, ai_at, ai_isI, ai_isJ, ai_isA, ai_ld, ai_1i, ai_2i, ai_2l, ai_cn, ai_j, ai_set, ai_set2, ai_nl, ai_rs, ai_sm, Value.category, hk0, hk1, lits, litb, litm, litm2, List.getElem?_cons_zero, List.getElem?_cons_succ, or_n0, bit_r, fi0, fi1, fi2, fi3, nI_toInt, nI_add, pk_mul, nI_leI, nI_ltI, nI_eq, pk_sub, ib_nI, nI_clamp, va_up_self, va_up_ne, va_up_up, va_up_comm, pk_us, pk_un, upd_up, updL_up, pk_uLs, pk_uLn, b01_1, b01_0, b01_1s, b01_0s, or_b, hm, hz, show ¬ 30 ≤ m by omega, mm31, mu31, mm32, mu32, mm33, mu33, mm34, mu34]
theorem addLine_0 {act a b : Int32} : aw ET G d 146 0 [some (.ref 30), some (.int act), some (.int a), some (.int b), some (.int mi1)] [] 231 sl (mem X Y) Q = Q [.int (nI 0)] 231 sl (mem X Y) := by
  simp (disch := omega) [w146_0, w146_2, w146_3, w146_6, x146_7_30, w146_10, w146_12, w146_15, w146_16, w146_17, x146_18_30, w146_21, x146_22_30, w146_25, w146_26, w146_27, x146_28_30, w146_31, x146_32_30, w146_35, w146_36, w146_37, x146_38_30, w146_41, x146_42_30, w146_45, w146_46, w146_47, x146_48_30, w146_51, x146_52_30, w146_55, w146_57, w146_58, w146_59, x146_60_30, w146_63, w146_64, x146_65, w146_68, w146_69, rt146, aw_st, ai_cls, ai_len, ai_p, ai_sw, ai_m, ai_c, ai_at, ai_isI, ai_isJ, ai_isA, ai_ld, ai_1i, ai_2i, ai_2l, ai_cn, ai_j, ai_set, ai_set2, ai_nl, ai_rs, ai_sm, Value.category, hk0, hk1, lits, litb, litm, litm2, List.getElem?_cons_zero, List.getElem?_cons_succ, or_n0, bit_r, fi0, fi1, fi2, fi3, nI_toInt, nI_add, pk_mul, nI_leI, nI_ltI, nI_eq, pk_sub, ib_nI, nI_clamp, va_up_self, va_up_ne, va_up_up, va_up_comm, pk_us, pk_un, upd_up, updL_up, pk_uLs, pk_uLn, b01_1, b01_0, b01_1s, b01_0s, or_b]
/-- nothing but the Reader and the BOOK's LINES has changed -/
def FB (X : mX) (Y : mY) (X' : mX) (Y' : mY) : Prop := (∀ k, ¬ k = 2 → ¬ (30 ≤ k ∧ k ≤ 34) → X' k = X k) ∧ (∀ j, ¬ j = 4 → X' 30 j = X 30 j) ∧ (∀ k, ¬ k = 2 → Y' k = Y k)
theorem FB.tr {X' X2 : mX} {Y' Y2 : mY} (h : FB X Y X' Y') (g : FB X' Y' X2 Y2) : FB X Y X2 Y2 := ⟨fun k a b => (g.1 k a b).trans (h.1 k a b), fun j a => (g.2.1 j a).trans (h.2.1 j a), fun k a => (g.2.2 k a).trans (h.2.2 k a)⟩
theorem HC.fb {X' : mX} {Y' : mY} (h : HC X Y X' Y') : FB X Y X' Y' := ⟨fun k a _ => h.1 k a, fun j _ => by rw [h.1 30 (by omega)], h.2⟩
theorem FB_al {act a b z : Int32} : FB X Y (alX X m act a b z) Y := ⟨fun k _ a => by simp only [alX, va_up, show ¬ k = 30 by omega, show ¬ k = 31 by omega, show ¬ k = 32 by omega, show ¬ k = 33 by omega, show ¬ k = 34 by omega, if_false], fun j a => by simp [alX, va_up, upd, a], fun _ _ => rfl⟩
theorem CB_al {B : BL} {L : BLn} (h : CB X B m) : CB (alX X m (nI (kAct L.1)) (nI L.2.1) (nI L.2.2.1) (nI L.2.2.2)) (BU B m L) (m + 1) := by
  intro q hq
  by_cases e : q = m
  · subst e; simp [alX, va_up, upd, BU]
  · have := h q (by omega)
    simpa [alX, va_up, upd, BU, e] using this
theorem CB_h {X' : mX} {B : BL} (h : CB X B m) (g : ∀ k, 31 ≤ k → k ≤ 34 → X' k = X k) : CB X' B m := by
  intro q hq
  rw [g 31 (by omega) (by omega), g 32 (by omega) (by omega), g 33 (by omega) (by omega), g 34 (by omega) (by omega)]
  exact h q hq
end BKA
