/-! LIVES COPIED, PUT BY, BROUGHT BACK -/
section PAS
variable {G : ai_G} {d sl : Nat} {Q : List Value → Nat → Nat → ai_M → Prop} {P S : Nat} {Y : mY} {X : mX} {l l' k : Nat → Nat → Int32}
def LEQ (l l' : Nat → Nat → Int32) : Prop := (∀ j, 1 ≤ j → j ≤ 8 → l j = l' j) ∧ (∀ j, 9 ≤ j → j ≤ 13 → l j 0 = l' j 0)
theorem LEQ.rfl' (l : Nat → Nat → Int32) : LEQ l l := ⟨fun _ _ _ => rfl, fun _ _ _ => rfl⟩
theorem LEQ.symm (h : LEQ l l') : LEQ l' l := ⟨fun j a b => (h.1 j a b).symm, fun j a b => (h.2 j a b).symm⟩
theorem LEQ.trans {l2 : Nat → Nat → Int32} (h : LEQ l l') (g : LEQ l' l2) : LEQ l l2 := ⟨fun j a b => (h.1 j a b).trans (g.1 j a b), fun j a b => (h.2 j a b).trans (g.2 j a b)⟩
theorem LEQ_plv {o : Nat} (l : Nat → Nat → Int32) : LEQ (lv (plv X o l) o) l := ⟨fun _ a b => lv_plv_row a b, fun _ a b => lv_plv_num a b⟩
theorem plv_cg {o : Nat} (h : LEQ l l') : plv X o l = plv X o l' := by
  funext j
  unfold plv
  by_cases c : j = o
  · simp only [c, if_true]
    funext i
    by_cases e : 9 ≤ i ∧ i ≤ 13
    · simp only [e, and_self, if_true]; exact h.2 i e.1 e.2
    · simp only [e, if_false]
  · simp only [c, if_false]
    by_cases e : o < j ∧ j ≤ o + 8
    · simp only [e, and_self, if_true]; exact h.1 _ (by omega) (by omega)
    · simp only [e, if_false]
theorem plv_plv {o : Nat} : plv (plv X o l) o l' = plv X o l' := by
  funext j
  unfold plv
  by_cases c : j = o
  · simp only [c, if_true]
    funext i
    by_cases e : 9 ≤ i ∧ i ≤ 13 <;> simp only [e, and_self, if_true, if_false]
  · simp only [c, if_false]
    by_cases e : o < j ∧ j ≤ o + 8 <;> simp only [e, and_self, if_true, if_false]
theorem LSx_cg {s : Nat → Int32} (h : LSx s l) (e : LEQ l l') : LSx s l' := by
  obtain ⟨⟨a1, a2, a3, a4, a5, a6, a7, a8, a9, a10, a11, a12⟩, b⟩ := h
  have e1 := e.1
  have e2 := e.2
  refine ⟨⟨?_, ?_, ?_, ?_, ?_, ?_, ?_, ?_, ?_, ?_, ?_, ?_⟩, ?_⟩
  · rw [a1, e2 10 (by omega) (by omega)]
  · rw [a2, e2 11 (by omega) (by omega)]
  · rw [a3, e2 12 (by omega) (by omega)]
  · rw [a4, e2 13 (by omega) (by omega)]
  · intro p hp; rw [a5 p hp, e1 1 (by omega) (by omega)]
  · intro p hp; rw [a6 p hp, e1 2 (by omega) (by omega)]
  · intro p hp; rw [a7 p hp, e2 9 (by omega) (by omega)]
  · intro p hp; rw [a8 p hp, e1 3 (by omega) (by omega)]
  · intro p hp; rw [a9 p hp, e1 4 (by omega) (by omega)]
  · intro p hp; rw [a10 p hp, e1 5 (by omega) (by omega)]
  · intro p hp; rw [a11 p hp, e1 6 (by omega) (by omega)]
  · intro p hp; rw [a12 p hp, e1 7 (by omega) (by omega)]
  · rw [b, e1 3 (by omega) (by omega)]
theorem cpy_in (f g : Nat → Int32) (N : Nat) {i : Nat} (hi : i < N) : va_cpy f g 0 0 N i = f i := by
  rw [pk_cpy_in (by omega) (by omega)]
  exact congrArg f (by omega)
/-- a copy holds what it was made of -/
theorem LSx_cpy {s : Nat → Int32} {r : Nat → Nat → Int32} (h : LSx s r) : LSx s (cpyL l r) := by
  obtain ⟨⟨a1, a2, a3, a4, a5, a6, a7, a8, a9, a10, a11, a12⟩, b⟩ := h
  have c : ∀ j, 1 ≤ j → j < 8 → ¬ j = 5 → ∀ p, p < 8 → cpyL l r j p = r j p := by
    intro j h1 h2 h3 p hp
    unfold cpyL
    rw [if_neg (by omega), if_neg h3, if_pos h2, cpy_in _ _ _ hp]
  have c5 : ∀ p, p < 64 → cpyL l r 5 p = r 5 p := by
    intro p hp
    unfold cpyL
    rw [if_neg (by omega), if_pos rfl, cpy_in _ _ _ hp]
  have cn : ∀ j, 9 ≤ j → cpyL l r j 0 = r j 0 := by
    intro j h1
    unfold cpyL
    rw [if_neg (by omega), if_neg (by omega), if_neg (by omega)]
  refine ⟨⟨?_, ?_, ?_, ?_, ?_, ?_, ?_, ?_, ?_, ?_, ?_, ?_⟩, ?_⟩
  · rw [a1, cn 10 (by omega)]
  · rw [a2, cn 11 (by omega)]
  · rw [a3, cn 12 (by omega)]
  · rw [a4, cn 13 (by omega)]
  · intro p hp; rw [a5 p hp, c 1 (by omega) (by omega) (by omega) p hp]
  · intro p hp; rw [a6 p hp, c 2 (by omega) (by omega) (by omega) p hp]
  · intro p hp; rw [a7 p hp, cn 9 (by omega)]
  · intro p hp; rw [a8 p hp, c 3 (by omega) (by omega) (by omega) p hp]
  · intro p hp; rw [a9 p hp, c 4 (by omega) (by omega) (by omega) p hp]
  · intro p hp; rw [a10 p hp, c5 p hp]
  · intro p hp; rw [a11 p hp, c 6 (by omega) (by omega) (by omega) p hp]
  · intro p hp; rw [a12 p hp, c 7 (by omega) (by omega) (by omega) p hp]
  · rw [b]
    simp only [rsum, Nat.zero_add, Nat.reduceAdd, c 3 (by omega) (by omega) (by omega) 0 (by omega), c 3 (by omega) (by omega) (by omega) 1 (by omega), c 3 (by omega) (by omega) (by omega) 2 (by omega), c 3 (by omega) (by omega) (by omega) 3 (by omega), c 3 (by omega) (by omega) (by omega) 4 (by omega), c 3 (by omega) (by omega) (by omega) 5 (by omega), c 3 (by omega) (by omega) (by omega) 6 (by omega), c 3 (by omega) (by omega) (by omega) 7 (by omega)]
theorem lcopyM {o q : Nat} (hG : G.1 = false) (ho : isLf o) (hq : isLf q) (hne : q + 8 < o ∨ o + 8 < q) : aw ET G (d + 1) 53 0 [some (.ref o), some (.ref q)] [] 231 sl (mem X Y) Q = Q [] 231 sl (mem (plv X o (cpyL (lv X o) (lv X q))) Y) := by
  refine aw_out (fun Q hQ => ?_) Q
  refine lcopy_wp hG (lf_mem ho) (lf_mem hq) hne (fun M' h1 h2 => ?_)
  rw [mem_of_lf ho h1 h2]
  exact hQ
/-- where a life is put by -/
def slot (old j : Nat) : Nat := 81 + 9 * ((old + j) % 8)
theorem slot_lf (old j : Nat) : isLf (slot old j) := by
  unfold slot isLf
  have := Nat.mod_lt (old + j) (show 8 > 0 by omega)
  omega
theorem slot_ge (old j : Nat) : 81 ≤ slot old j ∧ slot old j ≤ 144 := by
  unfold slot
  have := Nat.mod_lt (old + j) (show 8 > 0 by omega)
  omega
theorem mod_lit (a : Nat) (h : a < 16) : nI a - nI a / nI 8 * nI 8 = nI (a % 8) := by
  have : ∀ a, a < 16 → nI a - nI a / nI 8 * nI 8 = nI (a % 8) := by decide +kernel
  exact this a h
theorem past_at {i : Nat} (h : i < 8) : ([81, 90, 99, 108, 117, 126, 135, 144] : List Nat)[i]? = some (81 + 9 * i) := by
  rcases (show i = 0 ∨ i = 1 ∨ i = 2 ∨ i = 3 ∨ i = 4 ∨ i = 5 ∨ i = 6 ∨ i = 7 by omega) with rfl | rfl | rfl | rfl | rfl | rfl | rfl | rfl <;> rfl
theorem x71_55s {i q : Nat} (h : i < 8) {L : ai_L} {st : List Value} : aw ET G (d + 1) 71 55 L (.ref q :: .ref (81 + 9 * i) :: st) 231 sl (mem X Y) Q = if ai_sm st ≤ 8 then aw ET G d 53 0 [some (.ref (81 + 9 * i)), some (.ref q)] [] 231 sl (mem X Y) (fun r n sl M => aw ET G (d + 1) 71 58 L (r ++ st) n sl M Q) else False := by
  rcases (show i = 0 ∨ i = 1 ∨ i = 2 ∨ i = 3 ∨ i = 4 ∨ i = 5 ∨ i = 6 ∨ i = 7 by omega) with rfl | rfl | rfl | rfl | rfl | rfl | rfl | rfl
  · exact x71_55_81
  · exact x71_55_90
  · exact x71_55_99
  · exact x71_55_108
  · exact x71_55_117
  · exact x71_55_126
  · exact x71_55_135
  · exact x71_55_144
theorem x95_37s {i q : Nat} (h : i < 8) (hq : q = 61) {L : ai_L} {st : List Value} : aw ET G (d + 1) 95 37 L (.ref (81 + 9 * i) :: .ref q :: st) 231 sl (mem X Y) Q = if ai_sm st ≤ 8 then aw ET G d 53 0 [some (.ref q), some (.ref (81 + 9 * i))] [] 231 sl (mem X Y) (fun r n sl M => aw ET G (d + 1) 95 40 L (r ++ st) n sl M Q) else False := by
  subst hq
  exact x95_37_61
theorem kob5 : (ai_kob ET 5).isSome = true := by decide +kernel
def psX (X : mX) (old m : Nat) : mX := va_up X 79 (upd (upd (X 79) 1 (nI old)) 2 (nI m))
set_option maxHeartbeats 4000000 in
theorem push_eq {o old m : Nat} (hG : G.1 = false) (ho : o = 61 ∨ o = 70) (h1 : X 79 1 = nI old) (h2 : X 79 2 = nI m) (hold : old < 8) (hm : m ≤ 8) : aw ET G (d + 2) 71 0 [some (.ref 79), some (.ref o)] [] 231 sl (mem X Y) Q = Q [] 231 sl (mem (plv (psX X (if m = 8 then (old + 1) % 8 else old) (pushN m)) (if m = 8 then slot old 0 else slot old m) (cpyL (lv X (if m = 8 then slot old 0 else slot old m)) (lv X o))) Y) := by
  have hlo : isLf o := by rcases ho with rfl | rfl <;> simp [isLf]
  by_cases c : m = 8
  · subst c
    have e1 : upd (upd (X 79) 1 (nI ((old + 1) % 8))) 2 (nI 8) = upd (X 79) 1 (nI ((old + 1) % 8)) := by
      funext j
      by_cases e : j = 2
      · subst e; simp [upd, h2]
      · rw [pk_un e]
    have em : (old + 1 + 7) % 8 = old % 8 := by omega
    have hc := fun (X : mX) (Q : List Value → Nat → Nat → ai_M → Prop) => lcopyM (G := G) (d := d) (sl := sl) (Q := Q) (Y := Y) (X := X) (o := slot old 0) (q := o) hG (slot_lf _ _) hlo (by have := slot_ge old 0; omega)
    simp only [if_true, pushN, psX, e1]
    unfold slot at hc ⊢
    simp only [Nat.add_zero] at hc ⊢
    simp (disch := omega) [w71_0, x71_1_79, w71_4, w71_6, w71_9, w71_10, x71_11_79, w71_14, w71_15, w71_16, w71_18, x71_19, w71_22, w71_25, w71_26, x71_27_79, w71_30, w71_31, x71_32, w71_35, x71_36_79, w71_39, x71_40_79, w71_43, x71_44_79, w71_47, w71_48, w71_49, w71_50, w71_52, w71_53, w71_54, w71_58, rt71, aw_st, ai_cls, ai_len, ai_p, ai_sw, ai_m, ai_c, ai_at, ai_isI, ai_isJ, ai_isA, ai_ld, ai_1i, ai_2i, ai_2l, ai_cn, ai_j, ai_set, ai_set2, ai_nl, ai_rs, ai_sm, Value.category, hk0, hk1, lits, litb, litm, litm2, List.getElem?_cons_zero, List.getElem?_cons_succ, or_n0, bit_r, fi0, fi1, fi2, fi3, nI_toInt, nI_add, pk_mul, nI_leI, nI_ltI, nI_eq, pk_sub, ib_nI, nI_clamp, va_up_self, va_up_ne, va_up_up, va_up_comm, pk_us, pk_un, upd_up, updL_up, pk_uLs, pk_uLn, b01_1, b01_0, b01_1s, b01_0s, or_b, mm80, h1, h2, mod_lit, past_at, x71_55s, em, kob5]
    rw [hc]
    simp (disch := omega) [w71_0, x71_1_79, w71_4, w71_6, w71_9, w71_10, x71_11_79, w71_14, w71_15, w71_16, w71_18, x71_19, w71_22, w71_25, w71_26, x71_27_79, w71_30, w71_31, x71_32, w71_35, x71_36_79, w71_39, x71_40_79, w71_43, x71_44_79, w71_47, w71_48, w71_49, w71_50, w71_52, w71_53, w71_54, w71_58, rt71, aw_st, ai_cls, ai_len, ai_p, ai_sw, ai_m, ai_c, ai_at, ai_isI, ai_isJ, ai_isA, ai_ld, ai_1i, ai_2i, ai_2l, ai_cn, ai_j, ai_set, ai_set2, ai_nl, ai_rs, ai_sm, Value.category, hk0, hk1, lits, litb, litm, litm2, List.getElem?_cons_zero, List.getElem?_cons_succ, or_n0, bit_r, fi0, fi1, fi2, fi3, nI_toInt, nI_add, pk_mul, nI_leI, nI_ltI, nI_eq, pk_sub, ib_nI, nI_clamp, va_up_self, va_up_ne, va_up_up, va_up_comm, pk_us, pk_un, upd_up, updL_up, pk_uLs, pk_uLn, b01_1, b01_0, b01_1s, b01_0s, or_b]
    rw [lv_up (by omega), lv_up (by omega)]
  · have em : (old + (m + 1) - 1) % 8 = (old + m) % 8 := by omega
    have hc := fun (X : mX) (Q : List Value → Nat → Nat → ai_M → Prop) => lcopyM (G := G) (d := d) (sl := sl) (Q := Q) (Y := Y) (X := X) (o := slot old m) (q := o) hG (slot_lf _ _) hlo (by have := slot_ge old m; omega)
    have e1 : upd (upd (X 79) 1 (nI old)) 2 (nI (m + 1)) = upd (X 79) 2 (nI (m + 1)) := by
      funext j
      by_cases e : j = 2
      · subst e; simp [upd]
      · rw [pk_un e, pk_un e]
        by_cases e' : j = 1
        · subst e'; simp [upd, h1]
        · rw [pk_un e']
    simp only [c, if_false, pushN, psX, e1]
    unfold slot at hc ⊢
    simp (disch := omega) [w71_0, x71_1_79, w71_4, w71_6, w71_9, w71_10, x71_11_79, w71_14, w71_15, w71_16, w71_18, x71_19, w71_22, w71_25, w71_26, x71_27_79, w71_30, w71_31, x71_32, w71_35, x71_36_79, w71_39, x71_40_79, w71_43, x71_44_79, w71_47, w71_48, w71_49, w71_50, w71_52, w71_53, w71_54, w71_58, rt71, aw_st, ai_cls, ai_len, ai_p, ai_sw, ai_m, ai_c, ai_at, ai_isI, ai_isJ, ai_isA, ai_ld, ai_1i, ai_2i, ai_2l, ai_cn, ai_j, ai_set, ai_set2, ai_nl, ai_rs, ai_sm, Value.category, hk0, hk1, lits, litb, litm, litm2, List.getElem?_cons_zero, List.getElem?_cons_succ, or_n0, bit_r, fi0, fi1, fi2, fi3, nI_toInt, nI_add, pk_mul, nI_leI, nI_ltI, nI_eq, pk_sub, ib_nI, nI_clamp, va_up_self, va_up_ne, va_up_up, va_up_comm, pk_us, pk_un, upd_up, updL_up, pk_uLs, pk_uLn, b01_1, b01_0, b01_1s, b01_0s, or_b, mm80, h1, h2, c, mod_lit, past_at, x71_55s, em, kob5]
    rw [hc]
    simp (disch := omega) [w71_0, x71_1_79, w71_4, w71_6, w71_9, w71_10, x71_11_79, w71_14, w71_15, w71_16, w71_18, x71_19, w71_22, w71_25, w71_26, x71_27_79, w71_30, w71_31, x71_32, w71_35, x71_36_79, w71_39, x71_40_79, w71_43, x71_44_79, w71_47, w71_48, w71_49, w71_50, w71_52, w71_53, w71_54, w71_58, rt71, aw_st, ai_cls, ai_len, ai_p, ai_sw, ai_m, ai_c, ai_at, ai_isI, ai_isJ, ai_isA, ai_ld, ai_1i, ai_2i, ai_2l, ai_cn, ai_j, ai_set, ai_set2, ai_nl, ai_rs, ai_sm, Value.category, hk0, hk1, lits, litb, litm, litm2, List.getElem?_cons_zero, List.getElem?_cons_succ, or_n0, bit_r, fi0, fi1, fi2, fi3, nI_toInt, nI_add, pk_mul, nI_leI, nI_ltI, nI_eq, pk_sub, ib_nI, nI_clamp, va_up_self, va_up_ne, va_up_up, va_up_comm, pk_us, pk_un, upd_up, updL_up, pk_uLs, pk_uLn, b01_1, b01_0, b01_1s, b01_0s, or_b]
    rw [lv_up (by omega), lv_up (by omega)]
set_option maxHeartbeats 4000000 in
theorem pop_eq {old m : Nat} (hG : G.1 = false) (h1 : X 79 1 = nI old) (h2 : X 79 2 = nI m) (hold : old < 8) (hm : m ≤ 8) : aw ET G (d + 2) 95 0 [some (.ref 79), some (.ref 61)] [] 231 sl (mem X Y) Q = if m = 0 then Q [.int mi1] 231 sl (mem X Y) else Q [.int (nI (m - 1))] 231 sl (mem (plv (psX X old (m - 1)) 61 (cpyL (lv X 61) (lv X (slot old (m - 1))))) Y) := by
  by_cases c : m = 0
  · subst c
    simp (disch := omega) [w95_0, x95_1_79, w95_4, w95_7, w95_8, w95_9, w95_10, x95_11_79, w95_14, w95_15, x95_16, w95_19, w95_20, x95_21_79, w95_24, x95_25_79, w95_28, x95_29_79, w95_32, w95_33, w95_35, w95_36, w95_40, x95_41_79, w95_44, rt95, aw_st, ai_cls, ai_len, ai_p, ai_sw, ai_m, ai_c, ai_at, ai_isI, ai_isJ, ai_isA, ai_ld, ai_1i, ai_2i, ai_2l, ai_cn, ai_j, ai_set, ai_set2, ai_nl, ai_rs, ai_sm, Value.category, hk0, hk1, lits, litb, litm, litm2, List.getElem?_cons_zero, List.getElem?_cons_succ, or_n0, bit_r, fi0, fi1, fi2, fi3, nI_toInt, nI_add, pk_mul, nI_leI, nI_ltI, nI_eq, pk_sub, ib_nI, nI_clamp, va_up_self, va_up_ne, va_up_up, va_up_comm, pk_us, pk_un, upd_up, updL_up, pk_uLs, pk_uLn, b01_1, b01_0, b01_1s, b01_0s, or_b, h1, h2]
  · have hc := fun (X : mX) (Q : List Value → Nat → Nat → ai_M → Prop) => lcopyM (G := G) (d := d) (sl := sl) (Q := Q) (Y := Y) (X := X) (o := 61) (q := slot old (m - 1)) hG (Or.inr (Or.inl rfl)) (slot_lf _ _) (by have := slot_ge old (m - 1); omega)
    have e1 : upd (upd (X 79) 1 (nI old)) 2 (nI (m - 1)) = upd (X 79) 2 (nI (m - 1)) := by
      funext j
      by_cases e : j = 2
      · subst e; simp [upd]
      · rw [pk_un e, pk_un e]
        by_cases e' : j = 1
        · subst e'; simp [upd, h1]
        · rw [pk_un e']
    simp only [c, if_false, psX, e1]
    unfold slot at hc ⊢
    have hx := fun (L : ai_L) (st : List Value) (X : mX) (Q : List Value → Nat → Nat → ai_M → Prop) => x95_37s (G := G) (d := d + 1) (sl := sl) (Q := Q) (Y := Y) (X := X) (i := (old + (m - 1)) % 8) (q := 61) (L := L) (st := st) (by omega) rfl
    simp (disch := omega) [w95_0, x95_1_79, w95_4, w95_7, w95_8, w95_9, w95_10, x95_11_79, w95_14, w95_15, x95_16, w95_19, w95_20, x95_21_79, w95_24, x95_25_79, w95_28, x95_29_79, w95_32, w95_33, w95_35, w95_36, w95_40, x95_41_79, w95_44, rt95, aw_st, ai_cls, ai_len, ai_p, ai_sw, ai_m, ai_c, ai_at, ai_isI, ai_isJ, ai_isA, ai_ld, ai_1i, ai_2i, ai_2l, ai_cn, ai_j, ai_set, ai_set2, ai_nl, ai_rs, ai_sm, Value.category, hk0, hk1, lits, litb, litm, litm2, List.getElem?_cons_zero, List.getElem?_cons_succ, or_n0, bit_r, fi0, fi1, fi2, fi3, nI_toInt, nI_add, pk_mul, nI_leI, nI_ltI, nI_eq, pk_sub, ib_nI, nI_clamp, va_up_self, va_up_ne, va_up_up, va_up_comm, pk_us, pk_un, upd_up, updL_up, pk_uLs, pk_uLn, b01_1, b01_0, b01_1s, b01_0s, or_b, mm80, h1, h2, c, mod_lit, past_at, hx, kob5]
    rw [hc]
    simp (disch := omega) [w95_0, x95_1_79, w95_4, w95_7, w95_8, w95_9, w95_10, x95_11_79, w95_14, w95_15, x95_16, w95_19, w95_20, x95_21_79, w95_24, x95_25_79, w95_28, x95_29_79, w95_32, w95_33, w95_35, w95_36, w95_40, x95_41_79, w95_44, rt95, aw_st, ai_cls, ai_len, ai_p, ai_sw, ai_m, ai_c, ai_at, ai_isI, ai_isJ, ai_isA, ai_ld, ai_1i, ai_2i, ai_2l, ai_cn, ai_j, ai_set, ai_set2, ai_nl, ai_rs, ai_sm, Value.category, hk0, hk1, lits, litb, litm, litm2, List.getElem?_cons_zero, List.getElem?_cons_succ, or_n0, bit_r, fi0, fi1, fi2, fi3, nI_toInt, nI_add, pk_mul, nI_leI, nI_ltI, nI_eq, pk_sub, ib_nI, nI_clamp, va_up_self, va_up_ne, va_up_up, va_up_comm, pk_us, pk_un, upd_up, updL_up, pk_uLs, pk_uLn, b01_1, b01_0, b01_1s, b01_0s, or_b]
    rw [lv_up (by omega), lv_up (by omega)]
    simp (disch := omega) [plv_out, va_up, upd]
end PAS
