/-! SAID: the class, II -/
section SDD
variable {G : ai_G} {d sl : Nat} {Y : mY} {P S o : Nat} {L : List SC} {X : mX}
theorem whom_wp {Q : List Value → Nat → Nat → ai_M → Prop} (hP8 : P ≤ 8) (hS8 : S ≤ 8) (hk : X 47 7 = nI P) (hL : L.length ≤ 40) (hkp : SK X L o) (hz : ∀ z ∈ L, okZ P S z) (hh : hgS L 0 = some 1) (hQ : ∀ X', (∀ k, ¬ k = 60 → X' k = X k) → Q [.int (nI ((evM P (lv X 61) (cv X 47) L []).headD 0))] 231 sl (mem X' Y)) : aw ET G (d + 4) 165 0 [some (.ref 56), some (.ref 61), none, none, none, none] [] 231 sl (mem X Y) Q := by
  have ha := all_P hP8
  have := whom_loop (G := G) (d := d) (sl := sl) (Y := Y) (P := P) (S := S) (o := o) (L := L) (X0 := X) (Q := Q) hP8 hS8 hk hL hkp hz hQ L [] [] X none rfl (fun _ _ => rfl) trivial (fun m hm => absurd hm (by simp)) hh (Nat.le_refl _) rfl
  simp (disch := omega) [w165_0, w165_1, x165_2_61, x165_5_47, w165_8, w165_9, w165_10, w165_11, w165_12, w165_13, w165_14, w165_15, rt165, rt165, aw_st, ai_cls, ai_len, ai_p, ai_sw, ai_m, ai_c, ai_at, ai_isI, ai_isJ, ai_isA, ai_ld, ai_1i, ai_2i, ai_2l, ai_cn, ai_j, ai_set, ai_set2, ai_nl, ai_rs, ai_sm, Value.category, hk0, hk1, lits, litb, litm, litm2, List.getElem?_cons_zero, List.getElem?_cons_succ, or_n0, bit_r, fi0, fi1, fi2, fi3, nI_toInt, nI_add, pk_mul, nI_leI, nI_ltI, nI_eq, pk_sub, ib_nI, nI_clamp, va_up_self, va_up_ne, va_up_up, va_up_comm, pk_us, pk_un, upd_up, updL_up, pk_uLs, pk_uLn, b01_1, b01_0, b01_1s, b01_0s, or_b, hk, ha]
  exact this
theorem nth_loop {m : Nat} {x : Int32} {Q : List Value → Nat → Nat → ai_M → Prop} (hP8 : P ≤ 8) (hk : X 47 7 = nI P) (hm : m < 256) : ∀ (r p c : Nat), p + r = P → c ≤ p → aw ET G d 164 48 [some (.ref 0), some (.int x), some (.int (nI m)), some (.int (nI c)), some (.int (nI p))] [] 231 sl (mem X Y) Q = Q [.int (nthT m x r p c)] 231 sl (mem X Y) := by
  intro r
  induction r with
  | zero =>
    intro p c hp hc
    have : p = P := by omega
    subst this
    rw [w164_48]
    simp (disch := omega) [w164_50, x164_51_0, x164_54_55, x164_57_47, w164_60, w164_90, w164_91, rt164, rt164, aw_st, ai_cls, ai_len, ai_p, ai_sw, ai_m, ai_c, ai_at, ai_isI, ai_isJ, ai_isA, ai_ld, ai_1i, ai_2i, ai_2l, ai_cn, ai_j, ai_set, ai_set2, ai_nl, ai_rs, ai_sm, Value.category, hk0, hk1, lits, litb, litm, litm2, List.getElem?_cons_zero, List.getElem?_cons_succ, or_n0, bit_r, fi0, fi1, fi2, fi3, nI_toInt, nI_add, pk_mul, nI_leI, nI_ltI, nI_eq, pk_sub, ib_nI, nI_clamp, va_up_self, va_up_ne, va_up_up, va_up_comm, pk_us, pk_un, upd_up, updL_up, pk_uLs, pk_uLn, b01_1, b01_0, b01_1s, b01_0s, or_b, hk, nthT]
  | succ r ih =>
    intro p c hp hc
    have hbn := bit_nat (p := p) hm (by omega)
    have hbr : nI m >>> (nI p &&& 31) &&& nI 1 = bit (nI m) (nI p) := rfl
    rw [w164_48]
    unfold nthT
    by_cases q : m.testBit p = true
    · rw [if_pos q]
      have q1 : bit (nI m) (nI p) = nI 1 := by rw [hbn]; exact q
      by_cases e : nI c = x
      · rw [if_pos e]
        simp (disch := omega) [w164_50, x164_51_0, x164_54_55, x164_57_47, w164_60, w164_63, w164_64, w164_66, w164_67, w164_68, w164_69, w164_70, w164_73, w164_74, w164_75, w164_78, w164_80, rt164, rt164, aw_st, ai_cls, ai_len, ai_p, ai_sw, ai_m, ai_c, ai_at, ai_isI, ai_isJ, ai_isA, ai_ld, ai_1i, ai_2i, ai_2l, ai_cn, ai_j, ai_set, ai_set2, ai_nl, ai_rs, ai_sm, Value.category, hk0, hk1, lits, litb, litm, litm2, List.getElem?_cons_zero, List.getElem?_cons_succ, or_n0, fi0, fi1, fi2, fi3, nI_toInt, nI_add, pk_mul, nI_leI, nI_ltI, nI_eq, pk_sub, ib_nI, nI_clamp, va_up_self, va_up_ne, va_up_up, va_up_comm, pk_us, pk_un, upd_up, updL_up, pk_uLs, pk_uLn, b01_1, b01_0, b01_1s, b01_0s, or_b, hk, hbr, q1, e, show ¬ P ≤ p by omega]
      · rw [if_neg e]
        have := ih (p + 1) (c + 1) (by omega) (by omega)
        simp (disch := omega) [w164_50, x164_51_0, x164_54_55, x164_57_47, w164_60, w164_63, w164_64, w164_66, w164_67, w164_68, w164_69, w164_70, w164_73, w164_74, w164_75, w164_78, w164_80, w164_81, w164_84, w164_87, rt164, rt164, aw_st, ai_cls, ai_len, ai_p, ai_sw, ai_m, ai_c, ai_at, ai_isI, ai_isJ, ai_isA, ai_ld, ai_1i, ai_2i, ai_2l, ai_cn, ai_j, ai_set, ai_set2, ai_nl, ai_rs, ai_sm, Value.category, hk0, hk1, lits, litb, litm, litm2, List.getElem?_cons_zero, List.getElem?_cons_succ, or_n0, fi0, fi1, fi2, fi3, nI_toInt, nI_add, pk_mul, nI_leI, nI_ltI, nI_eq, pk_sub, ib_nI, nI_clamp, va_up_self, va_up_ne, va_up_up, va_up_comm, pk_us, pk_un, upd_up, updL_up, pk_uLs, pk_uLn, b01_1, b01_0, b01_1s, b01_0s, or_b, hk, hbr, q1, e, show ¬ P ≤ p by omega]
        exact iff_of_eq this
    · rw [if_neg q]
      have q1 : ¬ bit (nI m) (nI p) = nI 1 := by rw [hbn]; exact q
      have := ih (p + 1) c (by omega) (by omega)
      simp (disch := omega) [w164_50, x164_51_0, x164_54_55, x164_57_47, w164_60, w164_63, w164_64, w164_66, w164_67, w164_68, w164_69, w164_70, w164_84, w164_87, rt164, rt164, aw_st, ai_cls, ai_len, ai_p, ai_sw, ai_m, ai_c, ai_at, ai_isI, ai_isJ, ai_isA, ai_ld, ai_1i, ai_2i, ai_2l, ai_cn, ai_j, ai_set, ai_set2, ai_nl, ai_rs, ai_sm, Value.category, hk0, hk1, lits, litb, litm, litm2, List.getElem?_cons_zero, List.getElem?_cons_succ, or_n0, fi0, fi1, fi2, fi3, nI_toInt, nI_add, pk_mul, nI_leI, nI_ltI, nI_eq, pk_sub, ib_nI, nI_clamp, va_up_self, va_up_ne, va_up_up, va_up_comm, pk_us, pk_un, upd_up, updL_up, pk_uLs, pk_uLn, b01_1, b01_0, b01_1s, b01_0s, or_b, hk, hbr, q1, show ¬ P ≤ p by omega]
      exact iff_of_eq this
theorem ev_one {l k : Nat → Nat → Int32} (hh : hgS L 0 = some 1) : (evM P l k L []).headD 0 < 2 ^ P := by
  obtain ⟨h1, h2⟩ := evM_ok (P := P) (l := l) (k := k) L [] 1 hh (fun m hm => absurd hm (by simp))
  match evM P l k L [], h1, h2 with
  | [m], _, h2 => exact h2 m (List.mem_singleton.mpr rfl)
/-- SAID of the class -/
theorem tsaid_none {x : Int32} {Q : List Value → Nat → Nat → ai_M → Prop} (h : X 56 5 = nI 0) : aw ET G d 164 0 [some (.ref 0), some (.int x), none, none, none] [] 231 sl (mem X Y) Q = Q [.int mi1] 231 sl (mem X Y) := by
  simp (disch := omega) [w164_0, x164_1_0, x164_4_55, x164_7_56, w164_10, w164_13, w164_14, rt164, rt164, aw_st, ai_cls, ai_len, ai_p, ai_sw, ai_m, ai_c, ai_at, ai_isI, ai_isJ, ai_isA, ai_ld, ai_1i, ai_2i, ai_2l, ai_cn, ai_j, ai_set, ai_set2, ai_nl, ai_rs, ai_sm, Value.category, hk0, hk1, lits, litb, litm, litm2, List.getElem?_cons_zero, List.getElem?_cons_succ, or_n0, bit_r, fi0, fi1, fi2, fi3, nI_toInt, nI_add, pk_mul, nI_leI, nI_ltI, nI_eq, pk_sub, ib_nI, nI_clamp, va_up_self, va_up_ne, va_up_up, va_up_comm, pk_us, pk_un, upd_up, updL_up, pk_uLs, pk_uLn, b01_1, b01_0, b01_1s, b01_0s, or_b, h]
theorem tsaid_wp {x : Int32} {Q : List Value → Nat → Nat → ai_M → Prop} (hP8 : P ≤ 8) (hS8 : S ≤ 8) (hk : X 47 7 = nI P) (ho : 0 < o) (ho2 : o ≤ 20) (hL : L.length ≤ 40) (hkp : SK X L o) (hz : ∀ z ∈ L, okZ P S z) (hh : hgS L 0 = some 1) (hQ : ∀ X', (∀ k, ¬ k = 60 → X' k = X k) → Q [.int (saidV P ((evM P (lv X 61) (cv X 47) L []).headD 0) x)] 231 sl (mem X' Y)) : aw ET G (d + 5) 164 0 [some (.ref 0), some (.int x), none, none, none] [] 231 sl (mem X Y) Q := by
  have h5 := hkp.1
  have hlt := ev_one (P := P) (l := lv X 61) (k := cv X 47) hh
  have h256 := p2_8 hP8
  simp (disch := omega) [w164_0, x164_1_0, x164_4_55, x164_7_56, w164_10, w164_13, w164_14, w164_15, x164_16_0, x164_19_55, w164_22, x164_23_0, x164_26_55, rt164, rt164, aw_st, ai_cls, ai_len, ai_p, ai_sw, ai_m, ai_c, ai_at, ai_isI, ai_isJ, ai_isA, ai_ld, ai_1i, ai_2i, ai_2l, ai_cn, ai_j, ai_set, ai_set2, ai_nl, ai_rs, ai_sm, Value.category, hk0, hk1, lits, litb, litm, litm2, List.getElem?_cons_zero, List.getElem?_cons_succ, or_n0, bit_r, fi0, fi1, fi2, fi3, nI_toInt, nI_add, pk_mul, nI_leI, nI_ltI, nI_eq, pk_sub, ib_nI, nI_clamp, va_up_self, va_up_ne, va_up_up, va_up_comm, pk_us, pk_un, upd_up, updL_up, pk_uLs, pk_uLn, b01_1, b01_0, b01_1s, b01_0s, or_b, h5, show ¬ o = 0 by omega]
  rw [x164_29_56, if_pos (by decide)]
  refine whom_wp hP8 hS8 hk hL hkp hz hh (fun X' f => ?_)
  have hQ' := hQ X' f
  have hk' : X' 47 7 = nI P := by rw [f 47 (by omega)]; exact hk
  generalize (evM P (lv X 61) (cv X 47) L []).headD 0 = m at *
  have hbc := fun (Q : List Value → Nat → Nat → ai_M → Prop) => bitCount_eq (G := G) (d := d + 4) (sl := sl) (Q := Q) (n := 231) (M := mem X' Y) (x := nI m)
  rw [bcI_nat m (by omega), ← cnt_pc hP8 hlt] at hbc
  unfold saidV at hQ'
  by_cases e : x = mi1
  · rw [if_pos e] at hQ'
    subst e
    simp (disch := omega) [w164_32, w164_33, w164_34, w164_35, w164_38, x164_39, w164_42, rt164, rt164, aw_st, ai_cls, ai_len, ai_p, ai_sw, ai_m, ai_c, ai_at, ai_isI, ai_isJ, ai_isA, ai_ld, ai_1i, ai_2i, ai_2l, ai_cn, ai_j, ai_set, ai_set2, ai_nl, ai_rs, ai_sm, Value.category, hk0, hk1, lits, litb, litm, litm2, List.getElem?_cons_zero, List.getElem?_cons_succ, or_n0, bit_r, fi0, fi1, fi2, fi3, nI_toInt, nI_add, pk_mul, nI_leI, nI_ltI, nI_eq, pk_sub, ib_nI, nI_clamp, va_up_self, va_up_ne, va_up_up, va_up_comm, pk_us, pk_un, upd_up, updL_up, pk_uLs, pk_uLn, b01_1, b01_0, b01_1s, b01_0s, or_b, hbc]
    exact hQ'
  · rw [if_neg e] at hQ'
    have hn := nth_loop (G := G) (d := d + 5) (sl := sl) (Y := Y) (X := X') (P := P) (m := m) (x := x) (Q := Q) hP8 hk' (by omega) P 0 0 (by omega) (by omega)
    simp (disch := omega) [w164_32, w164_33, w164_34, w164_35, w164_43, w164_44, w164_45, w164_46, rt164, rt164, aw_st, ai_cls, ai_len, ai_p, ai_sw, ai_m, ai_c, ai_at, ai_isI, ai_isJ, ai_isA, ai_ld, ai_1i, ai_2i, ai_2l, ai_cn, ai_j, ai_set, ai_set2, ai_nl, ai_rs, ai_sm, Value.category, hk0, hk1, lits, litb, litm, litm2, List.getElem?_cons_zero, List.getElem?_cons_succ, or_n0, bit_r, fi0, fi1, fi2, fi3, nI_toInt, nI_add, pk_mul, nI_leI, nI_ltI, nI_eq, pk_sub, ib_nI, nI_clamp, va_up_self, va_up_ne, va_up_up, va_up_comm, pk_us, pk_un, upd_up, updL_up, pk_uLs, pk_uLn, b01_1, b01_0, b01_1s, b01_0s, or_b, e]
    rw [hn]
    exact hQ'
end SDD
