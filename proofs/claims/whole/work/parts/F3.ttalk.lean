/-! TALKED: the class, its small methods, III -/
section TTN
variable {G : ai_G} {d sl : Nat} {Q : List Value → Nat → Nat → ai_M → Prop} {Y : mY} {X : mX} {P c : Nat}
set_option maxHeartbeats 4000000 in
theorem can_eq {m : Nat} (hP : 0 < P) (hP6 : P ≤ 6) (hp : X 42 5 = nI P) (hc : c < 108) (hm : m ≤ 3) (hf : ∀ i, i < m → ∃ q, q < 108 ∧ X 44 i = nI q) : aw ET G (d + 1) 128 0 [some (.ref 42), some (.int (nI c)), some (.int (nI m)), none, none, none, none, none] [] 231 sl (mem X Y) Q = Q [.int (b01 (canT P (X 44) c m = true))] 231 sl (mem X Y) := by
  obtain ⟨c1, c2⟩ := cd_lt hP hP6 hc
  have hh := fun (Q : List Value → Nat → Nat → ai_M → Prop) => hearer_eq (G := G) (d := d) (sl := sl) (Q := Q) (X := X) (Y := Y) hP hP6 hc
  have hw := fun (Q : List Value → Nat → Nat → ai_M → Prop) => whom_eq (G := G) (d := d) (sl := sl) (Q := Q) (X := X) (Y := Y) hP hP6 hc
  have hl := can_loop (G := G) (d := d) (sl := sl) (Q := Q) (X := X) (Y := Y) hP hP6 hp hc hm hf m 0 none none (by omega)
  unfold canT
  by_cases e : cdH P c = cdW P c
  · simp (disch := omega) [w128_0, w128_1, x128_2_42, x128_5, w128_8, w128_9, w128_10, x128_11_42, x128_14, w128_17, w128_19, w128_20, w128_22, w128_25, w128_26, rt128, rt128, aw_st, ai_cls, ai_len, ai_p, ai_sw, ai_m, ai_c, ai_at, ai_isI, ai_isJ, ai_isA, ai_ld, ai_1i, ai_2i, ai_2l, ai_cn, ai_j, ai_set, ai_set2, ai_nl, ai_rs, ai_sm, Value.category, hk0, hk1, lits, litb, litm, litm2, List.getElem?_cons_zero, List.getElem?_cons_succ, or_n0, bit_r, fi0, fi1, fi2, fi3, nI_toInt, nI_add, pk_mul, nI_leI, nI_ltI, nI_eq, pk_sub, ib_nI, nI_clamp, va_up_self, va_up_ne, va_up_up, va_up_comm, pk_us, pk_un, upd_up, updL_up, pk_uLs, pk_uLn, b01_1, b01_0, b01_1s, b01_0s, or_b, hp, hh, hw, e, b01]
  · simp (disch := omega) [w128_0, w128_1, x128_2_42, x128_5, w128_8, w128_9, w128_10, x128_11_42, x128_14, w128_17, w128_19, w128_20, w128_22, w128_25, w128_26, w128_27, w128_28, rt128, rt128, aw_st, ai_cls, ai_len, ai_p, ai_sw, ai_m, ai_c, ai_at, ai_isI, ai_isJ, ai_isA, ai_ld, ai_1i, ai_2i, ai_2l, ai_cn, ai_j, ai_set, ai_set2, ai_nl, ai_rs, ai_sm, Value.category, hk0, hk1, lits, litb, litm, litm2, List.getElem?_cons_zero, List.getElem?_cons_succ, or_n0, bit_r, fi0, fi1, fi2, fi3, nI_toInt, nI_add, pk_mul, nI_leI, nI_ltI, nI_eq, pk_sub, ib_nI, nI_clamp, va_up_self, va_up_ne, va_up_up, va_up_comm, pk_us, pk_un, upd_up, updL_up, pk_uLs, pk_uLn, b01_1, b01_0, b01_1s, b01_0s, or_b, hp, hh, hw, e]
    rw [hl]
set_option maxHeartbeats 4000000 in
theorem take_eq {v : Int32} (hP : 0 < P) (hP6 : P ≤ 6) (hp : X 42 5 = nI P) (hc : c < 108) (hh8 : cdH P c < 6) : aw ET G (d + 1) 131 0 [some (.ref 42), some (.int (nI c)), some (.int v), none] [] 231 sl (mem X Y) Q = Q [] 231 sl (mem (va_up X 43 (upd (upd (X 43) (cdH P c) (X 43 (cdH P c) - nI (c % 3 + 1) * v)) (cdW P c) (upd (X 43) (cdH P c) (X 43 (cdH P c) - nI (c % 3 + 1) * v) (cdW P c) + nI (c % 3 + 1) * v))) Y) := by
  obtain ⟨c1, c2⟩ := cd_lt hP hP6 hc
  have hh := fun (X : mX) (Q : List Value → Nat → Nat → ai_M → Prop) => hearer_eq (G := G) (d := d) (sl := sl) (Q := Q) (X := X) (Y := Y) hP hP6 hc
  have hw := fun (X : mX) (Q : List Value → Nat → Nat → ai_M → Prop) => whom_eq (G := G) (d := d) (sl := sl) (Q := Q) (X := X) (Y := Y) hP hP6 hc
  have hu := fun (X : mX) (Q : List Value → Nat → Nat → ai_M → Prop) => hours_eq (G := G) (d := d) (sl := sl) (Q := Q) (X := X) (Y := Y) hc
  simp (disch := omega) [w131_0, x131_1, w131_4, w131_5, w131_6, w131_7, x131_8_42, w131_11, w131_12, x131_13_42, x131_16, w131_19, w131_20, w131_21, w131_22, w131_23, w131_24, x131_25_42, w131_28, w131_29, x131_30_42, x131_33, w131_36, w131_37, w131_38, w131_39, w131_40, w131_41, rt131, rt131, aw_st, ai_cls, ai_len, ai_p, ai_sw, ai_m, ai_c, ai_at, ai_isI, ai_isJ, ai_isA, ai_ld, ai_1i, ai_2i, ai_2l, ai_cn, ai_j, ai_set, ai_set2, ai_nl, ai_rs, ai_sm, Value.category, hk0, hk1, lits, litb, litm, litm2, List.getElem?_cons_zero, List.getElem?_cons_succ, or_n0, bit_r, fi0, fi1, fi2, fi3, nI_toInt, nI_add, pk_mul, nI_leI, nI_ltI, nI_eq, pk_sub, ib_nI, nI_clamp, va_up_self, va_up_ne, va_up_up, va_up_comm, pk_us, pk_un, upd_up, updL_up, pk_uLs, pk_uLn, b01_1, b01_0, b01_1s, b01_0s, or_b, mm43, mu43, hp, hh, hw, hu]
end TTN
