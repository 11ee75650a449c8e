/-! A BOOK lived: the class -/
section BKC
variable {G : ai_G} {d sl : Nat} {Q : List Value → Nat → Nat → ai_M → Prop} {Y : mY} {X : mX} {P S m : Nat} {B : BL} {l l' k : Nat → Nat → Int32} {F : Nat → Int32}
/-- alike but for the row of the ring found last -/
def LQ (l l' : Nat → Nat → Int32) : Prop := (∀ j, 1 ≤ j → j ≤ 7 → l j = l' j) ∧ (∀ j, 9 ≤ j → j ≤ 13 → l j 0 = l' j 0)
theorem LEQ.lq (h : LEQ l l') : LQ l l' := ⟨fun j a b => h.1 j a (by omega), h.2⟩
theorem LQ.tr {l2 : Nat → Nat → Int32} (h : LQ l l') (g : LQ l' l2) : LQ l l2 := ⟨fun j a b => (h.1 j a b).trans (g.1 j a b), fun j a b => (h.2 j a b).trans (g.2 j a b)⟩
theorem LQ.rfl' (l : Nat → Nat → Int32) : LQ l l := ⟨fun _ _ _ => rfl, fun _ _ _ => rfl⟩
theorem LQ_vf (h : LQ l l') (i : Nat) {f f' : Nat → Int32} (hf : f = f') : LQ (vf_upd l i f) (vf_upd l' i f') := by
  subst hf
  refine ⟨fun j a b => ?_, fun j a b => ?_⟩
  · unfold vf_upd
    split
    · rfl
    · exact h.1 j a b
  · unfold vf_upd
    split
    · rfl
    · exact h.2 j a b
theorem whyI_lq (h : LQ l l') {a b : Nat} {x : Int32} : whyI l k a b x = whyI l' k a b x := by
  unfold whyI
  rw [h.1 2 (by omega) (by omega), h.1 1 (by omega) (by omega), h.2 9 (by omega) (by omega)]
theorem hearL_lq (h : LQ l l') {a b : Nat} {x : Int32} : LQ (hearL l k a b x) (hearL l' k a b x) := by
  have e1 := h.1 1 (by omega) (by omega)
  have e2 := h.1 2 (by omega) (by omega)
  have e3 := h.1 3 (by omega) (by omega)
  have e4 := h.1 4 (by omega) (by omega)
  have e5 := h.1 5 (by omega) (by omega)
  have e11 := h.2 11 (by omega) (by omega)
  have e13 := h.2 13 (by omega) (by omega)
  have hA : LQ (hearA l a b x) (hearA l' a b x) := by
    unfold hearA
    exact LQ_vf (LQ_vf (LQ_vf (LQ_vf h 2 (by rw [e2])) 3 (by rw [e3])) 4 (by rw [e4])) 13 (by rw [e13])
  unfold hearL
  refine LQ_vf ?_ 5 (by rw [e5])
  unfold hearB
  split
  · exact LQ_vf hA 11 (by rw [e11])
  · exact LQ_vf hA 1 (by rw [e1])
theorem tellI_lq (h : LQ l l') {a b s : Nat} : tellI l a b s = tellI l' a b s := by
  unfold tellI
  rw [h.1 7 (by omega) (by omega)]
theorem tellL_lq (h : LQ l l') {a b s : Nat} : LQ (tellL l k a b s) (tellL l' k a b s) := by
  have e5 := h.1 5 (by omega) (by omega)
  have e6 := h.1 6 (by omega) (by omega)
  have e7 := h.1 7 (by omega) (by omega)
  unfold tellL
  exact LQ_vf (LQ_vf (LQ_vf h 7 (by rw [e7])) 6 (by rw [e6])) 5 (by rw [e5, e6])
theorem dayS_lq (h : LQ l l') (p : Nat) : LQ (dayS l k p) (dayS l' k p) := by
  have e1 := h.1 1 (by omega) (by omega)
  have e2 := h.1 2 (by omega) (by omega)
  have e5 := h.1 5 (by omega) (by omega)
  have e9 := h.2 9 (by omega) (by omega)
  have hA : LQ (dayA l k p) (dayA l' k p) := by
    unfold dayA
    rw [e5]
    split
    · exact LQ_vf h 9 (by rw [e9])
    · exact h
  unfold dayS
  exact LQ_vf (LQ_vf hA 2 (by rw [e2])) 1 (by rw [e1])
theorem dayR_lq : ∀ (r p : Nat) (l l' : Nat → Nat → Int32), LQ l l' → LQ (dayR k p r l) (dayR k p r l') := by
  intro r
  induction r with
  | zero =>
    intro p l l' h
    unfold dayR
    exact LQ_vf h 10 (by rw [h.2 10 (by omega) (by omega)])
  | succ r ih =>
    intro p l l' h
    unfold dayR
    exact ih _ _ _ (dayS_lq h p)
theorem daysR_lq : ∀ (r : Nat) (l l' : Nat → Nat → Int32), LQ l l' → LQ (daysR k P r l) (daysR k P r l') := by
  intro r
  induction r with
  | zero => intro l l' h; exact h
  | succ r ih => intro l l' h; exact ih _ _ (dayR_lq _ _ _ _ h)
theorem stkL_lq (h : LQ l l') : LQ (stkL P l) (stkL P l') := by
  have e5 := h.1 5 (by omega) (by omega)
  have e12 := h.2 12 (by omega) (by omega)
  unfold stkL
  exact LQ_vf (LQ_vf h 5 (by rw [e5, e12])) 12 (by rw [e5, e12])
theorem stG_lq {g : Nat → Int32} : LQ (stG P l g) (stkL P l) := by
  unfold stG
  refine ⟨fun j a b => ?_, fun j a b => ?_⟩
  · unfold vf_upd; rw [if_neg (by omega)]
  · unfold vf_upd; rw [if_neg (by omega)]
/-- a LINE lived: why it is WRONG, what is so, hours, rings -/
abbrev ZL4 : Type := Int32 × (Nat → Nat → Int32) × Int32 × Int32
def liveS (k : Nat → Nat → Int32) (P : Nat) (L : BLn) (l : Nat → Nat → Int32) : ZL4 :=
  if L.1 = 0 then (if whyI l k L.2.1 L.2.2.1 (nI L.2.2.2) = nI 0 then (nI 0, hearL l k L.2.1 L.2.2.1 (nI L.2.2.2), nI L.2.2.2, nI 0) else (whyI l k L.2.1 L.2.2.1 (nI L.2.2.2), l, nI 0, nI 0))
  else if L.1 = 1 then (if tellI l L.2.1 L.2.2.1 L.2.2.2 = nI 0 then (nI 0, tellL l k L.2.1 L.2.2.1 L.2.2.2, nI 0, nI 0) else (nI 10 + tellI l L.2.1 L.2.2.1 L.2.2.2, l, nI 0, nI 0))
  else if L.1 = 2 then (if nI 9999 < l 10 0 + nI L.2.2.2 then (nI 20, l, nI 0, nI 0) else (nI 0, daysR k P L.2.2.2 l, nI 0, nI 0))
  else (nI 0, stkL P l, nI 0, nI (strk P 64 (l 5) 0 0).2.2)
/-- all of them: answer, why, how many were lived, what is so, hours, rings -/
def liveR (k : Nat → Nat → Int32) (P : Nat) (B : BL) : Nat → Nat → (Nat → Nat → Int32) → Int32 → Int32 → Int32 × Int32 × Nat × (Nat → Nat → Int32) × Int32 × Int32
  | 0, q, l, h, g => (mi1, nI 0, q, l, h, g)
  | r + 1, q, l, h, g => if (liveS k P (B q) l).1 = nI 0 then liveR k P B r (q + 1) (liveS k P (B q) l).2.1 (h + (liveS k P (B q) l).2.2.1) (g + (liveS k P (B q) l).2.2.2) else (nI q, (liveS k P (B q) l).1, q, l, h, g)
theorem add0 (x : Int32) : x + nI 0 = x := Int32.add_zero x
theorem ten_why {l : Nat → Nat → Int32} {a b s : Nat} : ¬ nI 10 + tellI l a b s = nI 0 := by
  unfold tellI
  (repeat' split) <;> decide
set_option maxHeartbeats 8000000 in
theorem liveLine_61 {q : Nat} {l1 : Nat → Nat → Int32} (hP : P ≤ 8) (hS : S ≤ 8) (kP : X 47 7 = nI P) (hc : CB X B m) (hB : BB B m P S) (hq : q < m) (hm : m ≤ 30) (hl : LQ l1 l) (hQ : ∀ l2, LQ l2 (liveS (cv X 47) P (B q) l).2.1 → ∀ F', F' 8 = F 8 + (liveS (cv X 47) P (B q) l).2.2.1 → F' 9 = F 9 + (liveS (cv X 47) P (B q) l).2.2.2 → (∀ j, ¬ j = 8 → ¬ j = 9 → F' j = F j) → Q [.int (liveS (cv X 47) P (B q) l).1] 231 sl (mem (plv (va_up X 30 F') 61 l2) Y)) : aw ET G (d + 11) 150 0 [some (.ref 30), some (.ref 61), some (.int (nI q)), none] [] 231 sl (mem (plv (va_up X 30 F) 61 l1) Y) Q := by
  obtain ⟨c1, c2, c3, c4⟩ := hc q hq
  have ho : isHT 61 := by simp [isHT]
  have hx : ∀ j, 31 ≤ j → j ≤ 34 → plv (va_up X 30 F) 61 l1 j = X j := fun j a b => by rw [plv_out (by omega), va_up_ne _ _ (by omega)]
  have h30 : plv (va_up X 30 F) 61 l1 30 = F := by rw [plv_out (by omega), va_up_self]
  have hcv : ∀ F l1, cv (plv (va_up X 30 F) 61 l1) 47 = cv X 47 := fun F l1 => by rw [cv_plv (by omega), cv_up (by omega)]
  have h47 : ∀ F l1, plv (va_up X 30 F) 61 l1 47 7 = nI P := fun F l1 => by rw [plv_out (by omega), va_up_ne _ _ (by omega)]; exact kP
  have hle : ∀ F l1, LQ (lv (plv (va_up X 30 F) 61 l1) 61) l1 := fun F l1 => (LEQ_plv l1).lq
  have hup : ∀ F F' l1, va_up (plv (va_up X 30 F) 61 l1) 30 F' = plv (va_up X 30 F') 61 l1 := by
    intro F F' l1
    funext j
    by_cases e : j = 30
    · subst e; rw [va_up_self, plv_out (by omega), va_up_self]
    · rw [va_up_ne _ _ e]
      unfold plv
      by_cases e1 : j = 61
      · subst e1; simp [va_up]
      · by_cases e2 : 61 < j ∧ j ≤ 61 + 8
        · simp [e1, e2]
        · simp [e1, e2, va_up, e]
  rcases hB q hq with ⟨t0, ta, tb, tz1, tz⟩ | ⟨t0, ta, tb, tz⟩ | ⟨t0, ta, tb, tz1, tz⟩ | t0
  · have hw : ∀ (Q : List Value → Nat → Nat → ai_M → Prop), aw ET G (d + 9) 68 0 [some (.ref 61), some (.int (nI (B q).2.1)), some (.int (nI (B q).2.2.1)), some (.int (nI (B q).2.2.2))] [] 231 sl (mem (plv (va_up X 30 F) 61 l1) Y) Q = Q [.int (whyI l (cv X 47) (B q).2.1 (B q).2.2.1 (nI (B q).2.2.2))] 231 sl (mem (plv (va_up X 30 F) 61 l1) Y) := fun Q => by
      rw [whyM' (d := d + 8) ho (by omega) (by omega), hcv, whyI_lq ((hle F l1).tr hl)]
    have hh : ∀ (Q : List Value → Nat → Nat → ai_M → Prop), aw ET G (d + 9) 72 0 [some (.ref 61), some (.int (nI (B q).2.1)), some (.int (nI (B q).2.2.1)), some (.int (nI (B q).2.2.2))] [] 231 sl (mem (plv (va_up X 30 F) 61 l1) Y) Q = Q [] 231 sl (mem (plv (va_up X 30 F) 61 (hearL (lv (plv (va_up X 30 F) 61 l1) 61) (cv X 47) (B q).2.1 (B q).2.2.1 (nI (B q).2.2.2))) Y) := fun Q => by
      rw [hearM (d := d + 7) ho (by omega) (by omega), hcv, plv_plv]
    have e0 : X 31 q = nI 7 := by rw [c1, t0]; rfl
    by_cases z : whyI l (cv X 47) (B q).2.1 (B q).2.2.1 (nI (B q).2.2.2) = nI 0
    · have es : liveS (cv X 47) P (B q) l = (nI 0, hearL l (cv X 47) (B q).2.1 (B q).2.2.1 (nI (B q).2.2.2), nI (B q).2.2.2, nI 0) := by unfold liveS; rw [if_pos t0, if_pos z]
      rw [es] at hQ
      have := hQ (hearL (lv (plv (va_up X 30 F) 61 l1) 61) (cv X 47) (B q).2.1 (B q).2.2.1 (nI (B q).2.2.2)) (hearL_lq ((hle F l1).tr hl)) (upd F 8 (F 8 + nI (B q).2.2.2)) (by simp [upd]) (by simp [upd]; exact (add0 _).symm) (fun j j1 j2 => by rw [pk_un j1])
      have h30b : ∀ l2, plv (va_up X 30 F) 61 l2 30 = F := fun l2 => by rw [plv_out (by omega), va_up_self]
      simp (disch := omega) [w150_0, x150_1_30, w150_4, w150_5, w150_6, w150_7, x150_8_30, w150_11, w150_12, w150_13, w150_40, w150_41, w150_42, x150_43_30, w150_46, w150_47, w150_48, x150_49_30, w150_52, w150_53, w150_54, x150_55_30, rt150, w151_0, w151_1, w151_2, w151_3, x151_5_61, w151_8, w151_10, w151_12, w151_15, w151_16, w151_17, w151_18, x151_20_61, w151_23, w151_24, x151_25_30, w151_28, w151_30, x151_31, w151_34, w151_36, rt151, rt150, aw_st, ai_cls, ai_len, ai_p, ai_sw, ai_m, ai_c, ai_at, ai_isI, ai_isJ, ai_isA, ai_ld, ai_1i, ai_2i, ai_2l, ai_cn, ai_j, ai_set, ai_set2, ai_nl, ai_rs, ai_sm, Value.category, hk0, hk1, lits, litb, litm, litm2, List.getElem?_cons_zero, List.getElem?_cons_succ, or_n0, bit_r, fi0, fi1, fi2, fi3, nI_toInt, nI_add, pk_mul, nI_leI, nI_ltI, nI_eq, pk_sub, ib_nI, nI_clamp, va_up_self, va_up_ne, va_up_up, va_up_comm, pk_us, pk_un, upd_up, updL_up, pk_uLs, pk_uLn, b01_1, b01_0, b01_1s, b01_0s, or_b, mm31, mm32, mm33, mm34, hx, e0, c2, c3, c4, hw, z, hh, h30b, hup]
      simp (disch := omega) [w150_58, rt150, aw_st, ai_cls, ai_len, ai_p, ai_sw, ai_m, ai_c, ai_at, ai_isI, ai_isJ, ai_isA, ai_ld, ai_1i, ai_2i, ai_2l, ai_cn, ai_j, ai_set, ai_set2, ai_nl, ai_rs, ai_sm, Value.category, hk0, hk1, lits, litb, litm, litm2, List.getElem?_cons_zero, List.getElem?_cons_succ, or_n0, bit_r, fi0, fi1, fi2, fi3, nI_toInt, nI_add, pk_mul, nI_leI, nI_ltI, nI_eq, pk_sub, ib_nI, nI_clamp, va_up_self, va_up_ne, va_up_up, va_up_comm, pk_us, pk_un, upd_up, updL_up, pk_uLs, pk_uLn, b01_1, b01_0, b01_1s, b01_0s, or_b]
      exact this
    · have es : liveS (cv X 47) P (B q) l = (whyI l (cv X 47) (B q).2.1 (B q).2.2.1 (nI (B q).2.2.2), l, nI 0, nI 0) := by unfold liveS; rw [if_pos t0, if_neg z]
      rw [es] at hQ
      have := hQ l1 hl F (add0 _).symm (add0 _).symm (fun _ _ _ => rfl)
      simp (disch := omega) [w150_0, x150_1_30, w150_4, w150_5, w150_6, w150_7, x150_8_30, w150_11, w150_12, w150_13, w150_40, w150_41, w150_42, x150_43_30, w150_46, w150_47, w150_48, x150_49_30, w150_52, w150_53, w150_54, x150_55_30, rt150, w151_0, w151_1, w151_2, w151_3, x151_5_61, w151_8, w151_10, w151_12, w151_15, w151_16, w151_17, w151_18, x151_20_61, w151_23, w151_24, x151_25_30, w151_28, w151_30, x151_31, w151_34, w151_36, rt151, rt150, aw_st, ai_cls, ai_len, ai_p, ai_sw, ai_m, ai_c, ai_at, ai_isI, ai_isJ, ai_isA, ai_ld, ai_1i, ai_2i, ai_2l, ai_cn, ai_j, ai_set, ai_set2, ai_nl, ai_rs, ai_sm, Value.category, hk0, hk1, lits, litb, litm, litm2, List.getElem?_cons_zero, List.getElem?_cons_succ, or_n0, bit_r, fi0, fi1, fi2, fi3, nI_toInt, nI_add, pk_mul, nI_leI, nI_ltI, nI_eq, pk_sub, ib_nI, nI_clamp, va_up_self, va_up_ne, va_up_up, va_up_comm, pk_us, pk_un, upd_up, updL_up, pk_uLs, pk_uLn, b01_1, b01_0, b01_1s, b01_0s, or_b, mm31, mm32, mm33, mm34, hx, e0, c2, c3, c4, hw, z]
      simp (disch := omega) [w150_58, rt150, aw_st, ai_cls, ai_len, ai_p, ai_sw, ai_m, ai_c, ai_at, ai_isI, ai_isJ, ai_isA, ai_ld, ai_1i, ai_2i, ai_2l, ai_cn, ai_j, ai_set, ai_set2, ai_nl, ai_rs, ai_sm, Value.category, hk0, hk1, lits, litb, litm, litm2, List.getElem?_cons_zero, List.getElem?_cons_succ, or_n0, bit_r, fi0, fi1, fi2, fi3, nI_toInt, nI_add, pk_mul, nI_leI, nI_ltI, nI_eq, pk_sub, ib_nI, nI_clamp, va_up_self, va_up_ne, va_up_up, va_up_comm, pk_us, pk_un, upd_up, updL_up, pk_uLs, pk_uLn, b01_1, b01_0, b01_1s, b01_0s, or_b]
      exact this
  · have t0' : ¬ (B q).1 = 0 := by omega
    have hw : ∀ (Q : List Value → Nat → Nat → ai_M → Prop), aw ET G (d + 9) 78 0 [some (.ref 61), some (.int (nI (B q).2.1)), some (.int (nI (B q).2.2.1)), some (.int (nI (B q).2.2.2))] [] 231 sl (mem (plv (va_up X 30 F) 61 l1) Y) Q = Q [.int (tellI l (B q).2.1 (B q).2.2.1 (B q).2.2.2)] 231 sl (mem (plv (va_up X 30 F) 61 l1) Y) := fun Q => by
      rw [tlwM (d := d + 8) ho (by omega) (by omega) (by omega), tellI_lq ((hle F l1).tr hl)]
    have hh : ∀ (Q : List Value → Nat → Nat → ai_M → Prop), aw ET G (d + 9) 80 0 [some (.ref 61), some (.int (nI (B q).2.1)), some (.int (nI (B q).2.2.1)), some (.int (nI (B q).2.2.2)), none] [] 231 sl (mem (plv (va_up X 30 F) 61 l1) Y) Q = Q [.int (worI (cv X 47) (B q).2.2.2 (lv (plv (va_up X 30 F) 61 l1) 61 6 (B q).2.2.2))] 231 sl (mem (plv (va_up X 30 F) 61 (tellL (lv (plv (va_up X 30 F) 61 l1) 61) (cv X 47) (B q).2.1 (B q).2.2.1 (B q).2.2.2)) Y) := fun Q => by
      rw [tellM (d := d + 6) ho (by omega) (by omega) (by omega), hcv, plv_plv]
    have e0 : X 31 q = nI 8 := by rw [c1, t0]; rfl
    by_cases z : tellI l (B q).2.1 (B q).2.2.1 (B q).2.2.2 = nI 0
    · have es : liveS (cv X 47) P (B q) l = (nI 0, tellL l (cv X 47) (B q).2.1 (B q).2.2.1 (B q).2.2.2, nI 0, nI 0) := by unfold liveS; rw [if_neg t0', if_pos t0, if_pos z]
      rw [es] at hQ
      have := hQ (tellL (lv (plv (va_up X 30 F) 61 l1) 61) (cv X 47) (B q).2.1 (B q).2.2.1 (B q).2.2.2) (tellL_lq ((hle F l1).tr hl)) F (add0 _).symm (add0 _).symm (fun _ _ _ => rfl)
      simp (disch := omega) [w150_0, x150_1_30, w150_4, w150_5, w150_6, w150_7, x150_8_30, w150_11, w150_12, w150_13, w150_59, w150_60, x150_61_30, w150_64, w150_65, w150_66, x150_67_30, w150_70, w150_71, w150_72, x150_73, rt150, w152_0, w152_1, w152_2, w152_3, x152_4_61, w152_7, w152_9, w152_11, w152_14, w152_16, w152_18, w152_19, w152_20, w152_21, w152_22, w152_23, x152_24_61, w152_27, w152_28, w152_29, rt152, rt150, aw_st, ai_cls, ai_len, ai_p, ai_sw, ai_m, ai_c, ai_at, ai_isI, ai_isJ, ai_isA, ai_ld, ai_1i, ai_2i, ai_2l, ai_cn, ai_j, ai_set, ai_set2, ai_nl, ai_rs, ai_sm, Value.category, hk0, hk1, lits, litb, litm, litm2, List.getElem?_cons_zero, List.getElem?_cons_succ, or_n0, bit_r, fi0, fi1, fi2, fi3, nI_toInt, nI_add, pk_mul, nI_leI, nI_ltI, nI_eq, pk_sub, ib_nI, nI_clamp, va_up_self, va_up_ne, va_up_up, va_up_comm, pk_us, pk_un, upd_up, updL_up, pk_uLs, pk_uLn, b01_1, b01_0, b01_1s, b01_0s, or_b, mm31, mm32, mm33, mm34, hx, e0, c2, c3, c4, hw, z, hh]
      simp (disch := omega) [w150_76, rt150, aw_st, ai_cls, ai_len, ai_p, ai_sw, ai_m, ai_c, ai_at, ai_isI, ai_isJ, ai_isA, ai_ld, ai_1i, ai_2i, ai_2l, ai_cn, ai_j, ai_set, ai_set2, ai_nl, ai_rs, ai_sm, Value.category, hk0, hk1, lits, litb, litm, litm2, List.getElem?_cons_zero, List.getElem?_cons_succ, or_n0, bit_r, fi0, fi1, fi2, fi3, nI_toInt, nI_add, pk_mul, nI_leI, nI_ltI, nI_eq, pk_sub, ib_nI, nI_clamp, va_up_self, va_up_ne, va_up_up, va_up_comm, pk_us, pk_un, upd_up, updL_up, pk_uLs, pk_uLn, b01_1, b01_0, b01_1s, b01_0s, or_b]
      exact this
    · have es : liveS (cv X 47) P (B q) l = (nI 10 + tellI l (B q).2.1 (B q).2.2.1 (B q).2.2.2, l, nI 0, nI 0) := by unfold liveS; rw [if_neg t0', if_pos t0, if_neg z]
      rw [es] at hQ
      have := hQ l1 hl F (add0 _).symm (add0 _).symm (fun _ _ _ => rfl)
      simp (disch := omega) [w150_0, x150_1_30, w150_4, w150_5, w150_6, w150_7, x150_8_30, w150_11, w150_12, w150_13, w150_59, w150_60, x150_61_30, w150_64, w150_65, w150_66, x150_67_30, w150_70, w150_71, w150_72, x150_73, rt150, w152_0, w152_1, w152_2, w152_3, x152_4_61, w152_7, w152_9, w152_11, w152_14, w152_16, w152_18, w152_19, w152_20, w152_21, w152_22, w152_23, x152_24_61, w152_27, w152_28, w152_29, rt152, rt150, aw_st, ai_cls, ai_len, ai_p, ai_sw, ai_m, ai_c, ai_at, ai_isI, ai_isJ, ai_isA, ai_ld, ai_1i, ai_2i, ai_2l, ai_cn, ai_j, ai_set, ai_set2, ai_nl, ai_rs, ai_sm, Value.category, hk0, hk1, lits, litb, litm, litm2, List.getElem?_cons_zero, List.getElem?_cons_succ, or_n0, bit_r, fi0, fi1, fi2, fi3, nI_toInt, nI_add, pk_mul, nI_leI, nI_ltI, nI_eq, pk_sub, ib_nI, nI_clamp, va_up_self, va_up_ne, va_up_up, va_up_comm, pk_us, pk_un, upd_up, updL_up, pk_uLs, pk_uLn, b01_1, b01_0, b01_1s, b01_0s, or_b, mm31, mm32, mm33, mm34, hx, e0, c2, c3, c4, hw, z]
      simp (disch := omega) [w150_76, rt150, aw_st, ai_cls, ai_len, ai_p, ai_sw, ai_m, ai_c, ai_at, ai_isI, ai_isJ, ai_isA, ai_ld, ai_1i, ai_2i, ai_2l, ai_cn, ai_j, ai_set, ai_set2, ai_nl, ai_rs, ai_sm, Value.category, hk0, hk1, lits, litb, litm, litm2, List.getElem?_cons_zero, List.getElem?_cons_succ, or_n0, bit_r, fi0, fi1, fi2, fi3, nI_toInt, nI_add, pk_mul, nI_leI, nI_ltI, nI_eq, pk_sub, ib_nI, nI_clamp, va_up_self, va_up_ne, va_up_up, va_up_comm, pk_us, pk_un, upd_up, updL_up, pk_uLs, pk_uLn, b01_1, b01_0, b01_1s, b01_0s, or_b]
      exact this
  · have t0' : ¬ (B q).1 = 0 := by omega
    have t1' : ¬ (B q).1 = 1 := by omega
    have hw : ∀ (x : Int32) (Q : List Value → Nat → Nat → ai_M → Prop), aw ET G (d + 10) 84 0 [some (.ref 61), some (.int x)] [] 231 sl (mem (plv (va_up X 30 F) 61 l1) Y) Q = Q [.int (b01 (¬ nI 9999 < l 10 0 + x))] 231 sl (mem (plv (va_up X 30 F) 61 l1) Y) := fun x Q => by
      have := canM (G := G) (d := d + 10) (sl := sl) (Q := Q) (X := plv (va_up X 30 F) 61 l1) (Y := Y) ho (x := x)
      rw [this, ((hle F l1).tr hl).2 10 (by omega) (by omega)]
      rfl
    have hh : ∀ (Q : List Value → Nat → Nat → ai_M → Prop), aw ET G (d + 10) 85 0 [some (.ref 61), some (.int (nI (B q).2.2.2)), none] [] 231 sl (mem (plv (va_up X 30 F) 61 l1) Y) Q = Q [] 231 sl (mem (plv (va_up X 30 F) 61 (daysR (cv X 47) P (B q).2.2.2 (lv (plv (va_up X 30 F) 61 l1) 61))) Y) := fun Q => by
      rw [daysM (d := d + 6) (P := P) ho hP (h47 F l1) (by omega), hcv, plv_plv]
    have e0 : X 31 q = nI 9 := by rw [c1, t0]; rfl
    by_cases z : nI 9999 < l 10 0 + nI (B q).2.2.2
    · have es : liveS (cv X 47) P (B q) l = (nI 20, l, nI 0, nI 0) := by unfold liveS; rw [if_neg t0', if_neg t1', if_pos t0, if_pos z]
      rw [es] at hQ
      have := hQ l1 hl F (add0 _).symm (add0 _).symm (fun _ _ _ => rfl)
      simp (disch := omega) [w150_0, x150_1_30, w150_4, w150_5, w150_6, w150_7, x150_8_30, w150_11, w150_12, w150_13, w150_77, w150_78, x150_79_61, w150_82, w150_85, w150_87, w150_88, w150_89, x150_90_61, w150_93, w150_94, rt150, rt150, aw_st, ai_cls, ai_len, ai_p, ai_sw, ai_m, ai_c, ai_at, ai_isI, ai_isJ, ai_isA, ai_ld, ai_1i, ai_2i, ai_2l, ai_cn, ai_j, ai_set, ai_set2, ai_nl, ai_rs, ai_sm, Value.category, hk0, hk1, lits, litb, litm, litm2, List.getElem?_cons_zero, List.getElem?_cons_succ, or_n0, bit_r, fi0, fi1, fi2, fi3, nI_toInt, nI_add, pk_mul, nI_leI, nI_ltI, nI_eq, pk_sub, ib_nI, nI_clamp, va_up_self, va_up_ne, va_up_up, va_up_comm, pk_us, pk_un, upd_up, updL_up, pk_uLs, pk_uLn, b01_1, b01_0, b01_1s, b01_0s, or_b, mm31, mm34, hx, e0, c4, hw, z]
      exact this
    · have es : liveS (cv X 47) P (B q) l = (nI 0, daysR (cv X 47) P (B q).2.2.2 l, nI 0, nI 0) := by unfold liveS; rw [if_neg t0', if_neg t1', if_pos t0, if_neg z]
      rw [es] at hQ
      have := hQ (daysR (cv X 47) P (B q).2.2.2 (lv (plv (va_up X 30 F) 61 l1) 61)) (daysR_lq _ _ _ ((hle F l1).tr hl)) F (add0 _).symm (add0 _).symm (fun _ _ _ => rfl)
      simp (disch := omega) [w150_0, x150_1_30, w150_4, w150_5, w150_6, w150_7, x150_8_30, w150_11, w150_12, w150_13, w150_77, w150_78, x150_79_61, w150_82, w150_85, w150_87, w150_88, w150_89, x150_90_61, w150_93, w150_94, rt150, rt150, aw_st, ai_cls, ai_len, ai_p, ai_sw, ai_m, ai_c, ai_at, ai_isI, ai_isJ, ai_isA, ai_ld, ai_1i, ai_2i, ai_2l, ai_cn, ai_j, ai_set, ai_set2, ai_nl, ai_rs, ai_sm, Value.category, hk0, hk1, lits, litb, litm, litm2, List.getElem?_cons_zero, List.getElem?_cons_succ, or_n0, bit_r, fi0, fi1, fi2, fi3, nI_toInt, nI_add, pk_mul, nI_leI, nI_ltI, nI_eq, pk_sub, ib_nI, nI_clamp, va_up_self, va_up_ne, va_up_up, va_up_comm, pk_us, pk_un, upd_up, updL_up, pk_uLs, pk_uLn, b01_1, b01_0, b01_1s, b01_0s, or_b, mm31, mm34, hx, e0, c4, hw, z, hh]
      exact this
  · have e0 : X 31 q = nI 10 := by rw [c1, t0]; rfl
    have e4 : X 34 q = nI 0 := by rw [c4, t0]
    have es : liveS (cv X 47) P (B q) l = (nI 0, stkL P l, nI 0, nI (strk P 64 (l 5) 0 0).2.2) := by unfold liveS; rw [t0]; simp
    rw [es] at hQ
    have e5 : lv (plv (va_up X 30 F) 61 l1) 61 5 = l 5 := ((hle F l1).tr hl).1 5 (by omega) (by omega)
    simp (disch := omega) [w150_0, x150_1_30, w150_4, w150_5, w150_6, w150_7, x150_8_30, w150_11, w150_12, w150_13, w150_95, w150_96, x150_97_30, w150_100, x150_101_61, rt150, rt150, aw_st, ai_cls, ai_len, ai_p, ai_sw, ai_m, ai_c, ai_at, ai_isI, ai_isJ, ai_isA, ai_ld, ai_1i, ai_2i, ai_2l, ai_cn, ai_j, ai_set, ai_set2, ai_nl, ai_rs, ai_sm, Value.category, hk0, hk1, lits, litb, litm, litm2, List.getElem?_cons_zero, List.getElem?_cons_succ, or_n0, bit_r, fi0, fi1, fi2, fi3, nI_toInt, nI_add, pk_mul, nI_leI, nI_ltI, nI_eq, pk_sub, ib_nI, nI_clamp, va_up_self, va_up_ne, va_up_up, va_up_comm, pk_us, pk_un, upd_up, updL_up, pk_uLs, pk_uLn, b01_1, b01_0, b01_1s, b01_0s, or_b, mm31, mm34, hx, e0, e4, h30]
    refine strikeM_61 (d := d) hP (h47 F l1) (fun g' => ?_)
    rw [plv_plv, e5]
    have := hQ (stG P (lv (plv (va_up X 30 F) 61 l1) 61) g') (stG_lq.tr (stkL_lq ((hle F l1).tr hl))) (upd F 9 (F 9 + nI (strk P 64 (l 5) 0 0).2.2)) (by simp [upd]; exact (add0 _).symm) (by simp [upd]) (fun j j1 j2 => by rw [pk_un j2])
    have h30b : ∀ l2, plv (va_up X 30 F) 61 l2 30 = F := fun l2 => by rw [plv_out (by omega), va_up_self]
    simp (disch := omega) [w150_104, x150_105, w150_108, w150_109, rt150, aw_st, ai_cls, ai_len, ai_p, ai_sw, ai_m, ai_c, ai_at, ai_isI, ai_isJ, ai_isA, ai_ld, ai_1i, ai_2i, ai_2l, ai_cn, ai_j, ai_set, ai_set2, ai_nl, ai_rs, ai_sm, Value.category, hk0, hk1, lits, litb, litm, litm2, List.getElem?_cons_zero, List.getElem?_cons_succ, or_n0, bit_r, fi0, fi1, fi2, fi3, nI_toInt, nI_add, pk_mul, nI_leI, nI_ltI, nI_eq, pk_sub, ib_nI, nI_clamp, va_up_self, va_up_ne, va_up_up, va_up_comm, pk_us, pk_un, upd_up, updL_up, pk_uLs, pk_uLn, b01_1, b01_0, b01_1s, b01_0s, or_b, h30b, hup]
    exact this
set_option maxHeartbeats 8000000 in
theorem liveLine_70 {q : Nat} {l1 : Nat → Nat → Int32} (hP : P ≤ 8) (hS : S ≤ 8) (kP : X 47 7 = nI P) (hc : CB X B m) (hB : BB B m P S) (hq : q < m) (hm : m ≤ 30) (hl : LQ l1 l) (hQ : ∀ l2, LQ l2 (liveS (cv X 47) P (B q) l).2.1 → ∀ F', F' 8 = F 8 + (liveS (cv X 47) P (B q) l).2.2.1 → F' 9 = F 9 + (liveS (cv X 47) P (B q) l).2.2.2 → (∀ j, ¬ j = 8 → ¬ j = 9 → F' j = F j) → Q [.int (liveS (cv X 47) P (B q) l).1] 231 sl (mem (plv (va_up X 30 F') 70 l2) Y)) : aw ET G (d + 11) 150 0 [some (.ref 30), some (.ref 70), some (.int (nI q)), none] [] 231 sl (mem (plv (va_up X 30 F) 70 l1) Y) Q := by
  obtain ⟨c1, c2, c3, c4⟩ := hc q hq
  have ho : isHT 70 := by simp [isHT]
  have hx : ∀ j, 31 ≤ j → j ≤ 34 → plv (va_up X 30 F) 70 l1 j = X j := fun j a b => by rw [plv_out (by omega), va_up_ne _ _ (by omega)]
  have h30 : plv (va_up X 30 F) 70 l1 30 = F := by rw [plv_out (by omega), va_up_self]
  have hcv : ∀ F l1, cv (plv (va_up X 30 F) 70 l1) 47 = cv X 47 := fun F l1 => by rw [cv_plv (by omega), cv_up (by omega)]
  have h47 : ∀ F l1, plv (va_up X 30 F) 70 l1 47 7 = nI P := fun F l1 => by rw [plv_out (by omega), va_up_ne _ _ (by omega)]; exact kP
  have hle : ∀ F l1, LQ (lv (plv (va_up X 30 F) 70 l1) 70) l1 := fun F l1 => (LEQ_plv l1).lq
  have hup : ∀ F F' l1, va_up (plv (va_up X 30 F) 70 l1) 30 F' = plv (va_up X 30 F') 70 l1 := by
    intro F F' l1
    funext j
    by_cases e : j = 30
    · subst e; rw [va_up_self, plv_out (by omega), va_up_self]
    · rw [va_up_ne _ _ e]
      unfold plv
      by_cases e1 : j = 70
      · subst e1; simp [va_up]
      · by_cases e2 : 70 < j ∧ j ≤ 70 + 8
        · simp [e1, e2]
        · simp [e1, e2, va_up, e]
  rcases hB q hq with ⟨t0, ta, tb, tz1, tz⟩ | ⟨t0, ta, tb, tz⟩ | ⟨t0, ta, tb, tz1, tz⟩ | t0
  · have hw : ∀ (Q : List Value → Nat → Nat → ai_M → Prop), aw ET G (d + 9) 68 0 [some (.ref 70), some (.int (nI (B q).2.1)), some (.int (nI (B q).2.2.1)), some (.int (nI (B q).2.2.2))] [] 231 sl (mem (plv (va_up X 30 F) 70 l1) Y) Q = Q [.int (whyI l (cv X 47) (B q).2.1 (B q).2.2.1 (nI (B q).2.2.2))] 231 sl (mem (plv (va_up X 30 F) 70 l1) Y) := fun Q => by
      rw [whyM' (d := d + 8) ho (by omega) (by omega), hcv, whyI_lq ((hle F l1).tr hl)]
    have hh : ∀ (Q : List Value → Nat → Nat → ai_M → Prop), aw ET G (d + 9) 72 0 [some (.ref 70), some (.int (nI (B q).2.1)), some (.int (nI (B q).2.2.1)), some (.int (nI (B q).2.2.2))] [] 231 sl (mem (plv (va_up X 30 F) 70 l1) Y) Q = Q [] 231 sl (mem (plv (va_up X 30 F) 70 (hearL (lv (plv (va_up X 30 F) 70 l1) 70) (cv X 47) (B q).2.1 (B q).2.2.1 (nI (B q).2.2.2))) Y) := fun Q => by
      rw [hearM (d := d + 7) ho (by omega) (by omega), hcv, plv_plv]
    have e0 : X 31 q = nI 7 := by rw [c1, t0]; rfl
    by_cases z : whyI l (cv X 47) (B q).2.1 (B q).2.2.1 (nI (B q).2.2.2) = nI 0
    · have es : liveS (cv X 47) P (B q) l = (nI 0, hearL l (cv X 47) (B q).2.1 (B q).2.2.1 (nI (B q).2.2.2), nI (B q).2.2.2, nI 0) := by unfold liveS; rw [if_pos t0, if_pos z]
      rw [es] at hQ
      have := hQ (hearL (lv (plv (va_up X 30 F) 70 l1) 70) (cv X 47) (B q).2.1 (B q).2.2.1 (nI (B q).2.2.2)) (hearL_lq ((hle F l1).tr hl)) (upd F 8 (F 8 + nI (B q).2.2.2)) (by simp [upd]) (by simp [upd]; exact (add0 _).symm) (fun j j1 j2 => by rw [pk_un j1])
      have h30b : ∀ l2, plv (va_up X 30 F) 70 l2 30 = F := fun l2 => by rw [plv_out (by omega), va_up_self]
      simp (disch := omega) [w150_0, x150_1_30, w150_4, w150_5, w150_6, w150_7, x150_8_30, w150_11, w150_12, w150_13, w150_40, w150_41, w150_42, x150_43_30, w150_46, w150_47, w150_48, x150_49_30, w150_52, w150_53, w150_54, x150_55_30, rt150, w151_0, w151_1, w151_2, w151_3, x151_5_70, w151_8, w151_10, w151_12, w151_15, w151_16, w151_17, w151_18, x151_20_70, w151_23, w151_24, x151_25_30, w151_28, w151_30, x151_31, w151_34, w151_36, rt151, rt150, aw_st, ai_cls, ai_len, ai_p, ai_sw, ai_m, ai_c, ai_at, ai_isI, ai_isJ, ai_isA, ai_ld, ai_1i, ai_2i, ai_2l, ai_cn, ai_j, ai_set, ai_set2, ai_nl, ai_rs, ai_sm, Value.category, hk0, hk1, lits, litb, litm, litm2, List.getElem?_cons_zero, List.getElem?_cons_succ, or_n0, bit_r, fi0, fi1, fi2, fi3, nI_toInt, nI_add, pk_mul, nI_leI, nI_ltI, nI_eq, pk_sub, ib_nI, nI_clamp, va_up_self, va_up_ne, va_up_up, va_up_comm, pk_us, pk_un, upd_up, updL_up, pk_uLs, pk_uLn, b01_1, b01_0, b01_1s, b01_0s, or_b, mm31, mm32, mm33, mm34, hx, e0, c2, c3, c4, hw, z, hh, h30b, hup]
      simp (disch := omega) [w150_58, rt150, aw_st, ai_cls, ai_len, ai_p, ai_sw, ai_m, ai_c, ai_at, ai_isI, ai_isJ, ai_isA, ai_ld, ai_1i, ai_2i, ai_2l, ai_cn, ai_j, ai_set, ai_set2, ai_nl, ai_rs, ai_sm, Value.category, hk0, hk1, lits, litb, litm, litm2, List.getElem?_cons_zero, List.getElem?_cons_succ, or_n0, bit_r, fi0, fi1, fi2, fi3, nI_toInt, nI_add, pk_mul, nI_leI, nI_ltI, nI_eq, pk_sub, ib_nI, nI_clamp, va_up_self, va_up_ne, va_up_up, va_up_comm, pk_us, pk_un, upd_up, updL_up, pk_uLs, pk_uLn, b01_1, b01_0, b01_1s, b01_0s, or_b]
      exact this
    · have es : liveS (cv X 47) P (B q) l = (whyI l (cv X 47) (B q).2.1 (B q).2.2.1 (nI (B q).2.2.2), l, nI 0, nI 0) := by unfold liveS; rw [if_pos t0, if_neg z]
      rw [es] at hQ
      have := hQ l1 hl F (add0 _).symm (add0 _).symm (fun _ _ _ => rfl)
      simp (disch := omega) [w150_0, x150_1_30, w150_4, w150_5, w150_6, w150_7, x150_8_30, w150_11, w150_12, w150_13, w150_40, w150_41, w150_42, x150_43_30, w150_46, w150_47, w150_48, x150_49_30, w150_52, w150_53, w150_54, x150_55_30, rt150, w151_0, w151_1, w151_2, w151_3, x151_5_70, w151_8, w151_10, w151_12, w151_15, w151_16, w151_17, w151_18, x151_20_70, w151_23, w151_24, x151_25_30, w151_28, w151_30, x151_31, w151_34, w151_36, rt151, rt150, aw_st, ai_cls, ai_len, ai_p, ai_sw, ai_m, ai_c, ai_at, ai_isI, ai_isJ, ai_isA, ai_ld, ai_1i, ai_2i, ai_2l, ai_cn, ai_j, ai_set, ai_set2, ai_nl, ai_rs, ai_sm, Value.category, hk0, hk1, lits, litb, litm, litm2, List.getElem?_cons_zero, List.getElem?_cons_succ, or_n0, bit_r, fi0, fi1, fi2, fi3, nI_toInt, nI_add, pk_mul, nI_leI, nI_ltI, nI_eq, pk_sub, ib_nI, nI_clamp, va_up_self, va_up_ne, va_up_up, va_up_comm, pk_us, pk_un, upd_up, updL_up, pk_uLs, pk_uLn, b01_1, b01_0, b01_1s, b01_0s, or_b, mm31, mm32, mm33, mm34, hx, e0, c2, c3, c4, hw, z]
      simp (disch := omega) [w150_58, rt150, aw_st, ai_cls, ai_len, ai_p, ai_sw, ai_m, ai_c, ai_at, ai_isI, ai_isJ, ai_isA, ai_ld, ai_1i, ai_2i, ai_2l, ai_cn, ai_j, ai_set, ai_set2, ai_nl, ai_rs, ai_sm, Value.category, hk0, hk1, lits, litb, litm, litm2, List.getElem?_cons_zero, List.getElem?_cons_succ, or_n0, bit_r, fi0, fi1, fi2, fi3, nI_toInt, nI_add, pk_mul, nI_leI, nI_ltI, nI_eq, pk_sub, ib_nI, nI_clamp, va_up_self, va_up_ne, va_up_up, va_up_comm, pk_us, pk_un, upd_up, updL_up, pk_uLs, pk_uLn, b01_1, b01_0, b01_1s, b01_0s, or_b]
      exact this
  · have t0' : ¬ (B q).1 = 0 := by omega
    have hw : ∀ (Q : List Value → Nat → Nat → ai_M → Prop), aw ET G (d + 9) 78 0 [some (.ref 70), some (.int (nI (B q).2.1)), some (.int (nI (B q).2.2.1)), some (.int (nI (B q).2.2.2))] [] 231 sl (mem (plv (va_up X 30 F) 70 l1) Y) Q = Q [.int (tellI l (B q).2.1 (B q).2.2.1 (B q).2.2.2)] 231 sl (mem (plv (va_up X 30 F) 70 l1) Y) := fun Q => by
      rw [tlwM (d := d + 8) ho (by omega) (by omega) (by omega), tellI_lq ((hle F l1).tr hl)]
    have hh : ∀ (Q : List Value → Nat → Nat → ai_M → Prop), aw ET G (d + 9) 80 0 [some (.ref 70), some (.int (nI (B q).2.1)), some (.int (nI (B q).2.2.1)), some (.int (nI (B q).2.2.2)), none] [] 231 sl (mem (plv (va_up X 30 F) 70 l1) Y) Q = Q [.int (worI (cv X 47) (B q).2.2.2 (lv (plv (va_up X 30 F) 70 l1) 70 6 (B q).2.2.2))] 231 sl (mem (plv (va_up X 30 F) 70 (tellL (lv (plv (va_up X 30 F) 70 l1) 70) (cv X 47) (B q).2.1 (B q).2.2.1 (B q).2.2.2)) Y) := fun Q => by
      rw [tellM (d := d + 6) ho (by omega) (by omega) (by omega), hcv, plv_plv]
    have e0 : X 31 q = nI 8 := by rw [c1, t0]; rfl
    by_cases z : tellI l (B q).2.1 (B q).2.2.1 (B q).2.2.2 = nI 0
    · have es : liveS (cv X 47) P (B q) l = (nI 0, tellL l (cv X 47) (B q).2.1 (B q).2.2.1 (B q).2.2.2, nI 0, nI 0) := by unfold liveS; rw [if_neg t0', if_pos t0, if_pos z]
      rw [es] at hQ
      have := hQ (tellL (lv (plv (va_up X 30 F) 70 l1) 70) (cv X 47) (B q).2.1 (B q).2.2.1 (B q).2.2.2) (tellL_lq ((hle F l1).tr hl)) F (add0 _).symm (add0 _).symm (fun _ _ _ => rfl)
      simp (disch := omega) [w150_0, x150_1_30, w150_4, w150_5, w150_6, w150_7, x150_8_30, w150_11, w150_12, w150_13, w150_59, w150_60, x150_61_30, w150_64, w150_65, w150_66, x150_67_30, w150_70, w150_71, w150_72, x150_73, rt150, w152_0, w152_1, w152_2, w152_3, x152_4_70, w152_7, w152_9, w152_11, w152_14, w152_16, w152_18, w152_19, w152_20, w152_21, w152_22, w152_23, x152_24_70, w152_27, w152_28, w152_29, rt152, rt150, aw_st, ai_cls, ai_len, ai_p, ai_sw, ai_m, ai_c, ai_at, ai_isI, ai_isJ, ai_isA, ai_ld, ai_1i, ai_2i, ai_2l, ai_cn, ai_j, ai_set, ai_set2, ai_nl, ai_rs, ai_sm, Value.category, hk0, hk1, lits, litb, litm, litm2, List.getElem?_cons_zero, List.getElem?_cons_succ, or_n0, bit_r, fi0, fi1, fi2, fi3, nI_toInt, nI_add, pk_mul, nI_leI, nI_ltI, nI_eq, pk_sub, ib_nI, nI_clamp, va_up_self, va_up_ne, va_up_up, va_up_comm, pk_us, pk_un, upd_up, updL_up, pk_uLs, pk_uLn, b01_1, b01_0, b01_1s, b01_0s, or_b, mm31, mm32, mm33, mm34, hx, e0, c2, c3, c4, hw, z, hh]
      simp (disch := omega) [w150_76, rt150, aw_st, ai_cls, ai_len, ai_p, ai_sw, ai_m, ai_c, ai_at, ai_isI, ai_isJ, ai_isA, ai_ld, ai_1i, ai_2i, ai_2l, ai_cn, ai_j, ai_set, ai_set2, ai_nl, ai_rs, ai_sm, Value.category, hk0, hk1, lits, litb, litm, litm2, List.getElem?_cons_zero, List.getElem?_cons_succ, or_n0, bit_r, fi0, fi1, fi2, fi3, nI_toInt, nI_add, pk_mul, nI_leI, nI_ltI, nI_eq, pk_sub, ib_nI, nI_clamp, va_up_self, va_up_ne, va_up_up, va_up_comm, pk_us, pk_un, upd_up, updL_up, pk_uLs, pk_uLn, b01_1, b01_0, b01_1s, b01_0s, or_b]
      exact this
    · have es : liveS (cv X 47) P (B q) l = (nI 10 + tellI l (B q).2.1 (B q).2.2.1 (B q).2.2.2, l, nI 0, nI 0) := by unfold liveS; rw [if_neg t0', if_pos t0, if_neg z]
      rw [es] at hQ
      have := hQ l1 hl F (add0 _).symm (add0 _).symm (fun _ _ _ => rfl)
      simp (disch := omega) [w150_0, x150_1_30, w150_4, w150_5, w150_6, w150_7, x150_8_30, w150_11, w150_12, w150_13, w150_59, w150_60, x150_61_30, w150_64, w150_65, w150_66, x150_67_30, w150_70, w150_71, w150_72, x150_73, rt150, w152_0, w152_1, w152_2, w152_3, x152_4_70, w152_7, w152_9, w152_11, w152_14, w152_16, w152_18, w152_19, w152_20, w152_21, w152_22, w152_23, x152_24_70, w152_27, w152_28, w152_29, rt152, rt150, aw_st, ai_cls, ai_len, ai_p, ai_sw, ai_m, ai_c, ai_at, ai_isI, ai_isJ, ai_isA, ai_ld, ai_1i, ai_2i, ai_2l, ai_cn, ai_j, ai_set, ai_set2, ai_nl, ai_rs, ai_sm, Value.category, hk0, hk1, lits, litb, litm, litm2, List.getElem?_cons_zero, List.getElem?_cons_succ, or_n0, bit_r, fi0, fi1, fi2, fi3, nI_toInt, nI_add, pk_mul, nI_leI, nI_ltI, nI_eq, pk_sub, ib_nI, nI_clamp, va_up_self, va_up_ne, va_up_up, va_up_comm, pk_us, pk_un, upd_up, updL_up, pk_uLs, pk_uLn, b01_1, b01_0, b01_1s, b01_0s, or_b, mm31, mm32, mm33, mm34, hx, e0, c2, c3, c4, hw, z]
      simp (disch := omega) [w150_76, rt150, aw_st, ai_cls, ai_len, ai_p, ai_sw, ai_m, ai_c, ai_at, ai_isI, ai_isJ, ai_isA, ai_ld, ai_1i, ai_2i, ai_2l, ai_cn, ai_j, ai_set, ai_set2, ai_nl, ai_rs, ai_sm, Value.category, hk0, hk1, lits, litb, litm, litm2, List.getElem?_cons_zero, List.getElem?_cons_succ, or_n0, bit_r, fi0, fi1, fi2, fi3, nI_toInt, nI_add, pk_mul, nI_leI, nI_ltI, nI_eq, pk_sub, ib_nI, nI_clamp, va_up_self, va_up_ne, va_up_up, va_up_comm, pk_us, pk_un, upd_up, updL_up, pk_uLs, pk_uLn, b01_1, b01_0, b01_1s, b01_0s, or_b]
      exact this
  · have t0' : ¬ (B q).1 = 0 := by omega
    have t1' : ¬ (B q).1 = 1 := by omega
    have hw : ∀ (x : Int32) (Q : List Value → Nat → Nat → ai_M → Prop), aw ET G (d + 10) 84 0 [some (.ref 70), some (.int x)] [] 231 sl (mem (plv (va_up X 30 F) 70 l1) Y) Q = Q [.int (b01 (¬ nI 9999 < l 10 0 + x))] 231 sl (mem (plv (va_up X 30 F) 70 l1) Y) := fun x Q => by
      have := canM (G := G) (d := d + 10) (sl := sl) (Q := Q) (X := plv (va_up X 30 F) 70 l1) (Y := Y) ho (x := x)
      rw [this, ((hle F l1).tr hl).2 10 (by omega) (by omega)]
      rfl
    have hh : ∀ (Q : List Value → Nat → Nat → ai_M → Prop), aw ET G (d + 10) 85 0 [some (.ref 70), some (.int (nI (B q).2.2.2)), none] [] 231 sl (mem (plv (va_up X 30 F) 70 l1) Y) Q = Q [] 231 sl (mem (plv (va_up X 30 F) 70 (daysR (cv X 47) P (B q).2.2.2 (lv (plv (va_up X 30 F) 70 l1) 70))) Y) := fun Q => by
      rw [daysM (d := d + 6) (P := P) ho hP (h47 F l1) (by omega), hcv, plv_plv]
    have e0 : X 31 q = nI 9 := by rw [c1, t0]; rfl
    by_cases z : nI 9999 < l 10 0 + nI (B q).2.2.2
    · have es : liveS (cv X 47) P (B q) l = (nI 20, l, nI 0, nI 0) := by unfold liveS; rw [if_neg t0', if_neg t1', if_pos t0, if_pos z]
      rw [es] at hQ
      have := hQ l1 hl F (add0 _).symm (add0 _).symm (fun _ _ _ => rfl)
      simp (disch := omega) [w150_0, x150_1_30, w150_4, w150_5, w150_6, w150_7, x150_8_30, w150_11, w150_12, w150_13, w150_77, w150_78, x150_79_70, w150_82, w150_85, w150_87, w150_88, w150_89, x150_90_70, w150_93, w150_94, rt150, rt150, aw_st, ai_cls, ai_len, ai_p, ai_sw, ai_m, ai_c, ai_at, ai_isI, ai_isJ, ai_isA, ai_ld, ai_1i, ai_2i, ai_2l, ai_cn, ai_j, ai_set, ai_set2, ai_nl, ai_rs, ai_sm, Value.category, hk0, hk1, lits, litb, litm, litm2, List.getElem?_cons_zero, List.getElem?_cons_succ, or_n0, bit_r, fi0, fi1, fi2, fi3, nI_toInt, nI_add, pk_mul, nI_leI, nI_ltI, nI_eq, pk_sub, ib_nI, nI_clamp, va_up_self, va_up_ne, va_up_up, va_up_comm, pk_us, pk_un, upd_up, updL_up, pk_uLs, pk_uLn, b01_1, b01_0, b01_1s, b01_0s, or_b, mm31, mm34, hx, e0, c4, hw, z]
      exact this
    · have es : liveS (cv X 47) P (B q) l = (nI 0, daysR (cv X 47) P (B q).2.2.2 l, nI 0, nI 0) := by unfold liveS; rw [if_neg t0', if_neg t1', if_pos t0, if_neg z]
      rw [es] at hQ
      have := hQ (daysR (cv X 47) P (B q).2.2.2 (lv (plv (va_up X 30 F) 70 l1) 70)) (daysR_lq _ _ _ ((hle F l1).tr hl)) F (add0 _).symm (add0 _).symm (fun _ _ _ => rfl)
      simp (disch := omega) [w150_0, x150_1_30, w150_4, w150_5, w150_6, w150_7, x150_8_30, w150_11, w150_12, w150_13, w150_77, w150_78, x150_79_70, w150_82, w150_85, w150_87, w150_88, w150_89, x150_90_70, w150_93, w150_94, rt150, rt150, aw_st, ai_cls, ai_len, ai_p, ai_sw, ai_m, ai_c, ai_at, ai_isI, ai_isJ, ai_isA, ai_ld, ai_1i, ai_2i, ai_2l, ai_cn, ai_j, ai_set, ai_set2, ai_nl, ai_rs, ai_sm, Value.category, hk0, hk1, lits, litb, litm, litm2, List.getElem?_cons_zero, List.getElem?_cons_succ, or_n0, bit_r, fi0, fi1, fi2, fi3, nI_toInt, nI_add, pk_mul, nI_leI, nI_ltI, nI_eq, pk_sub, ib_nI, nI_clamp, va_up_self, va_up_ne, va_up_up, va_up_comm, pk_us, pk_un, upd_up, updL_up, pk_uLs, pk_uLn, b01_1, b01_0, b01_1s, b01_0s, or_b, mm31, mm34, hx, e0, c4, hw, z, hh]
      exact this
  · have e0 : X 31 q = nI 10 := by rw [c1, t0]; rfl
    have e4 : X 34 q = nI 0 := by rw [c4, t0]
    have es : liveS (cv X 47) P (B q) l = (nI 0, stkL P l, nI 0, nI (strk P 64 (l 5) 0 0).2.2) := by unfold liveS; rw [t0]; simp
    rw [es] at hQ
    have e5 : lv (plv (va_up X 30 F) 70 l1) 70 5 = l 5 := ((hle F l1).tr hl).1 5 (by omega) (by omega)
    simp (disch := omega) [w150_0, x150_1_30, w150_4, w150_5, w150_6, w150_7, x150_8_30, w150_11, w150_12, w150_13, w150_95, w150_96, x150_97_30, w150_100, x150_101_70, rt150, rt150, aw_st, ai_cls, ai_len, ai_p, ai_sw, ai_m, ai_c, ai_at, ai_isI, ai_isJ, ai_isA, ai_ld, ai_1i, ai_2i, ai_2l, ai_cn, ai_j, ai_set, ai_set2, ai_nl, ai_rs, ai_sm, Value.category, hk0, hk1, lits, litb, litm, litm2, List.getElem?_cons_zero, List.getElem?_cons_succ, or_n0, bit_r, fi0, fi1, fi2, fi3, nI_toInt, nI_add, pk_mul, nI_leI, nI_ltI, nI_eq, pk_sub, ib_nI, nI_clamp, va_up_self, va_up_ne, va_up_up, va_up_comm, pk_us, pk_un, upd_up, updL_up, pk_uLs, pk_uLn, b01_1, b01_0, b01_1s, b01_0s, or_b, mm31, mm34, hx, e0, e4, h30]
    refine strikeM_70 (d := d) hP (h47 F l1) (fun g' => ?_)
    rw [plv_plv, e5]
    have := hQ (stG P (lv (plv (va_up X 30 F) 70 l1) 70) g') (stG_lq.tr (stkL_lq ((hle F l1).tr hl))) (upd F 9 (F 9 + nI (strk P 64 (l 5) 0 0).2.2)) (by simp [upd]; exact (add0 _).symm) (by simp [upd]) (fun j j1 j2 => by rw [pk_un j2])
    have h30b : ∀ l2, plv (va_up X 30 F) 70 l2 30 = F := fun l2 => by rw [plv_out (by omega), va_up_self]
    simp (disch := omega) [w150_104, x150_105, w150_108, w150_109, rt150, aw_st, ai_cls, ai_len, ai_p, ai_sw, ai_m, ai_c, ai_at, ai_isI, ai_isJ, ai_isA, ai_ld, ai_1i, ai_2i, ai_2l, ai_cn, ai_j, ai_set, ai_set2, ai_nl, ai_rs, ai_sm, Value.category, hk0, hk1, lits, litb, litm, litm2, List.getElem?_cons_zero, List.getElem?_cons_succ, or_n0, bit_r, fi0, fi1, fi2, fi3, nI_toInt, nI_add, pk_mul, nI_leI, nI_ltI, nI_eq, pk_sub, ib_nI, nI_clamp, va_up_self, va_up_ne, va_up_up, va_up_comm, pk_us, pk_un, upd_up, updL_up, pk_uLs, pk_uLn, b01_1, b01_0, b01_1s, b01_0s, or_b, h30b, hup]
    exact this
end BKC
