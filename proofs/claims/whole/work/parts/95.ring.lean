/-! THE CLASS'S OWN METHODS, IV: rings, HOUR, sermon, now -/
section TWR
variable {G : ai_G} {d sl : Nat} {Q : List Value → Nat → Nat → ai_M → Prop} {P S : Nat} {Y : mY} {X : mX} {l l' k : Nat → Nat → Int32}
theorem c0_ : (nI 0).toNatClampNeg = 0 := rfl
theorem c8_ : (nI 8).toNatClampNeg = 8 := rfl
set_option maxHeartbeats 4000000 in
theorem tring_wp (hG : G.1 = false) (hP : P ≤ 8) (hk : X 47 7 = nI P) (hQ : ∀ g', (∀ z, ringS (X 66) P = some z → RW g' z) → Q [.int (nI (rlen (ringS (X 66) P)))] 231 sl (mem (va_up (va_up (va_up X 0 (upd (X 0) 14 (nI (rlen (ringS (X 66) P))))) 46 (va_cpy g' (X 46) 0 0 8)) 69 g') Y)) : aw ET G (d + 10) 96 0 [some (.ref 0)] [] 231 sl (mem X Y) Q := by
  have hf : ∀ (Q : List Value → Nat → Nat → ai_M → Prop), (∀ g', (∀ z, ringS (X 66) P = some z → RW g' z) → Q [.int (nI (rlen (ringS (X 66) P)))] 231 sl (mem (va_up X 69 g') Y)) → aw ET G (d + 9) 90 0 [some (.ref 61), none, none] [] 231 sl (mem X Y) Q := fun Q h => by
    have := findRing_61 (G := G) (d := d) (sl := sl) (Q := Q) (Y := Y) (X := X) (f := X 66) hP hk rfl (g := X 69) h
    rw [va_id] at this
    exact this
  simp (disch := omega) [w96_0, w96_1, x96_2_0, x96_5_55, x96_8_61, x96_11, w96_14, x96_15_0, x96_18_55, x96_21_61, w96_24, w96_25, x96_26_0, w96_29, w96_30, w96_32, w96_35, x96_36_0, w96_39, rt96, ow96, pl11_288, aw_st, ai_cls, ai_len, ai_p, ai_sw, ai_m, ai_c, ai_at, ai_isI, ai_isJ, ai_isA, ai_ld, ai_1i, ai_2i, ai_2l, ai_cn, ai_j, ai_set, ai_set2, ai_nl, ai_rs, ai_sm, Value.category, hk0, hk1, lits, litb, litm, litm2, List.getElem?_cons_zero, List.getElem?_cons_succ, or_n0, bit_r, fi0, fi1, fi2, fi3, nI_toInt, nI_add, pk_mul, nI_leI, nI_ltI, nI_eq, pk_sub, ib_nI, nI_clamp, va_up_self, va_up_ne, va_up_up, va_up_comm, pk_us, pk_un, upd_up, updL_up, pk_uLs, pk_uLn, b01_1, b01_0, b01_1s, b01_0s, or_b]
  refine hf _ (fun g' hw => ?_)
  have := hQ g' hw
  simp (disch := omega) [w96_0, w96_1, x96_2_0, x96_5_55, x96_8_61, x96_11, w96_14, x96_15_0, x96_18_55, x96_21_61, w96_24, w96_25, x96_26_0, w96_29, w96_30, w96_32, w96_35, x96_36_0, w96_39, rt96, ow96, pl11_288, aw_st, ai_cls, ai_len, ai_p, ai_sw, ai_m, ai_c, ai_at, ai_isI, ai_isJ, ai_isA, ai_ld, ai_1i, ai_2i, ai_2l, ai_cn, ai_j, ai_set, ai_set2, ai_nl, ai_rs, ai_sm, Value.category, hk0, hk1, lits, litb, litm, litm2, List.getElem?_cons_zero, List.getElem?_cons_succ, or_n0, bit_r, fi0, fi1, fi2, fi3, nI_toInt, nI_add, pk_mul, nI_leI, nI_ltI, nI_eq, pk_sub, ib_nI, nI_clamp, va_up_self, va_up_ne, va_up_up, va_up_comm, pk_us, pk_un, upd_up, updL_up, pk_uLs, pk_uLn, b01_1, b01_0, b01_1s, b01_0s, or_b, mm69, mm46, mu46, ai_cp, hG, c0_, c8_]
  exact this
set_option maxHeartbeats 4000000 in
theorem tringAt_eq {L : Nat} (hL : L ≤ 8) (h : X 0 14 = nI L) {x : Int32} : aw ET G d 97 0 [some (.ref 0), some (.int x)] [] 231 sl (mem X Y) Q = Q [.int (if pI L x = true then X 46 (iN x) else mi1)] 231 sl (mem X Y) := by
  cases hx : pI L x
  · have hx' := hx
    unfold pI at hx
    rw [decide_eq_false_iff_not] at hx
    rcases lt_or x 0 with ⟨g1, g2⟩ | ⟨g1, g2⟩
    · have g1' : x < nI 0 := g1
      simp (disch := omega) [w97_0, w97_1, w97_4, w97_5, x97_6_0, w97_9, w97_12, w97_13, w97_15, w97_18, x97_19_0, w97_22, w97_23, w97_24, w97_27, w97_28, rt97, aw_st, ai_cls, ai_len, ai_p, ai_sw, ai_m, ai_c, ai_at, ai_isI, ai_isJ, ai_isA, ai_ld, ai_1i, ai_2i, ai_2l, ai_cn, ai_j, ai_set, ai_set2, ai_nl, ai_rs, ai_sm, Value.category, hk0, hk1, lits, litb, litm, litm2, List.getElem?_cons_zero, List.getElem?_cons_succ, or_n0, bit_r, fi0, fi1, fi2, fi3, nI_toInt, nI_add, pk_mul, nI_leI, nI_ltI, nI_eq, pk_sub, ib_nI, nI_clamp, va_up_self, va_up_ne, va_up_up, va_up_comm, pk_us, pk_un, upd_up, updL_up, pk_uLs, pk_uLn, b01_1, b01_0, b01_1s, b01_0s, or_b, g1']
    · have g1' : ¬ x < nI 0 := g1
      have : ¬ x < nI L := fun h => hx ⟨g2, h⟩
      have h3 : nI L ≤ x := Int32.not_lt.mp this
      simp (disch := omega) [w97_0, w97_1, w97_4, w97_5, x97_6_0, w97_9, w97_12, w97_13, w97_15, w97_18, x97_19_0, w97_22, w97_23, w97_24, w97_27, w97_28, rt97, aw_st, ai_cls, ai_len, ai_p, ai_sw, ai_m, ai_c, ai_at, ai_isI, ai_isJ, ai_isA, ai_ld, ai_1i, ai_2i, ai_2l, ai_cn, ai_j, ai_set, ai_set2, ai_nl, ai_rs, ai_sm, Value.category, hk0, hk1, lits, litb, litm, litm2, List.getElem?_cons_zero, List.getElem?_cons_succ, or_n0, bit_r, fi0, fi1, fi2, fi3, nI_toInt, nI_add, pk_mul, nI_leI, nI_ltI, nI_eq, pk_sub, ib_nI, nI_clamp, va_up_self, va_up_ne, va_up_up, va_up_comm, pk_us, pk_un, upd_up, updL_up, pk_uLs, pk_uLn, b01_1, b01_0, b01_1s, b01_0s, or_b, g1', h, h3]
  · obtain ⟨a, ha, rfl⟩ := (pI_nat (by omega)).mp hx
    simp (disch := omega) [w97_0, w97_1, w97_4, w97_5, x97_6_0, w97_9, w97_12, w97_13, w97_15, w97_18, x97_19_0, w97_22, w97_23, w97_24, w97_27, w97_28, rt97, aw_st, ai_cls, ai_len, ai_p, ai_sw, ai_m, ai_c, ai_at, ai_isI, ai_isJ, ai_isA, ai_ld, ai_1i, ai_2i, ai_2l, ai_cn, ai_j, ai_set, ai_set2, ai_nl, ai_rs, ai_sm, Value.category, hk0, hk1, lits, litb, litm, litm2, List.getElem?_cons_zero, List.getElem?_cons_succ, or_n0, bit_r, fi0, fi1, fi2, fi3, nI_toInt, nI_add, pk_mul, nI_leI, nI_ltI, nI_eq, pk_sub, ib_nI, nI_clamp, va_up_self, va_up_ne, va_up_up, va_up_comm, pk_us, pk_un, upd_up, updL_up, pk_uLs, pk_uLn, b01_1, b01_0, b01_1s, b01_0s, or_b, h, mm46, iN_nI, show ¬ L ≤ a by omega, show ¬ 8 ≤ a by omega]
/-- a life as strike leaves it -/
def stG (P : Nat) (l : Nat → Nat → Int32) (g : Nat → Int32) : Nat → Nat → Int32 := vf_upd (stkL P l) 8 g
theorem plv_st {h : Int32} {f g : Nat → Int32} : va_up (va_up (va_up X 61 (upd (X 61) 12 h)) 66 f) 69 g = plv X 61 (vf_upd (vf_upd (vf_upd (lv X 61) 5 f) 12 (fun _ => h)) 8 g) := by
  funext j
  by_cases c : j < 61 ∨ 69 < j
  · rw [plv_out (by omega)]
    simp [va_up, show ¬ j = 69 by omega, show ¬ j = 66 by omega, show ¬ j = 61 by omega]
  · rcases (show j = 61 ∨ j = 62 ∨ j = 63 ∨ j = 64 ∨ j = 65 ∨ j = 66 ∨ j = 67 ∨ j = 68 ∨ j = 69 by omega) with rfl | rfl | rfl | rfl | rfl | rfl | rfl | rfl | rfl
    · simp [va_up, plv]
      funext i
      simp only [upd, vf_upd, lv]
      by_cases e : 9 ≤ i ∧ i ≤ 13
      · simp only [e, and_self, if_true, show ¬ i = 8 by omega, if_false, show ¬ i = 5 by omega, show ¬ i ≤ 8 by omega]
        split <;> rfl
      · simp only [e, if_false, show ¬ i = 12 by omega]
    all_goals simp [va_up, plv, vf_upd, lv]
theorem plv_st70 {h : Int32} {f g : Nat → Int32} : va_up (va_up (va_up X 70 (upd (X 70) 12 h)) 75 f) 78 g = plv X 70 (vf_upd (vf_upd (vf_upd (lv X 70) 5 f) 12 (fun _ => h)) 8 g) := by
  funext j
  by_cases c : j < 70 ∨ 78 < j
  · rw [plv_out (by omega)]
    simp [va_up, show ¬ j = 78 by omega, show ¬ j = 75 by omega, show ¬ j = 70 by omega]
  · rcases (show j = 70 ∨ j = 71 ∨ j = 72 ∨ j = 73 ∨ j = 74 ∨ j = 75 ∨ j = 76 ∨ j = 77 ∨ j = 78 by omega) with rfl | rfl | rfl | rfl | rfl | rfl | rfl | rfl | rfl
    · simp [va_up, plv]
      funext i
      simp only [upd, vf_upd, lv]
      by_cases e : 9 ≤ i ∧ i ≤ 13
      · simp only [e, and_self, if_true, show ¬ i = 8 by omega, if_false, show ¬ i = 5 by omega, show ¬ i ≤ 8 by omega]
        split <;> rfl
      · simp only [e, if_false, show ¬ i = 12 by omega]
    all_goals simp [va_up, plv, vf_upd, lv]
theorem strikeM_61 (hP : P ≤ 8) (kP : X 47 7 = nI P) (hQ : ∀ g', Q [.int (nI (strk P 64 (lv X 61 5) 0 0).2.2)] 231 sl (mem (plv X 61 (stG P (lv X 61) g')) Y)) : aw ET G (d + 10) 89 0 [some (.ref 61), none, none] [] 231 sl (mem X Y) Q := by
  refine strikeRings_61 hP kP (fun g' => ?_)
  rw [plv_st]
  have := hQ g'
  rw [strk_0 (X 66) (X 61 12)]
  unfold stG stkL at this
  rw [show lv X 61 5 = X 66 from rfl, show lv X 61 12 0 = X 61 12 from rfl, strk_0 (X 66) (X 61 12)] at this
  exact this
theorem strikeM_70 (hP : P ≤ 8) (kP : X 47 7 = nI P) (hQ : ∀ g', Q [.int (nI (strk P 64 (lv X 70 5) 0 0).2.2)] 231 sl (mem (plv X 70 (stG P (lv X 70) g')) Y)) : aw ET G (d + 10) 89 0 [some (.ref 70), none, none] [] 231 sl (mem X Y) Q := by
  refine strikeRings_70 hP kP (fun g' => ?_)
  rw [plv_st70]
  have := hQ g'
  rw [strk_0 (X 75) (X 70 12)]
  unfold stG stkL at this
  rw [show lv X 70 5 = X 75 from rfl, show lv X 70 12 0 = X 70 12 from rfl, strk_0 (X 75) (X 70 12)] at this
  exact this
theorem strk_c : ∀ (r : Nat) (f : Nat → Int32) (e : Int32) (c : Nat), (strk P r f e c).2.2 ≤ c + r := by
  intro r
  induction r with
  | zero => intro f e c; exact Nat.le_refl _
  | succ r ih =>
    intro f e c
    unfold strk
    split
    · show c ≤ c + (r + 1); omega
    · rename_i z _
      have := ih (strF f z) (e + lstZ f z * nI z.length) (c + 1)
      omega
/-- after strike: the trial as it was, the life struck, what was struck last -/
def strX (X : mX) (P : Nat) (g : Nat → Int32) : mX := va_up (plv (plv X 70 (cpyL (lv X 70) (lv X 61))) 61 (stG P (lv X 61) g)) 0 (upd (X 0) 17 (strk P 64 (lv X 61 5) 0 0).2.1)
theorem add_sub_i (a b : Int32) : a + b - a = b := by rw [Int32.add_comm, Int32.add_sub_cancel]
set_option maxHeartbeats 4000000 in
theorem tstrike_wp {old m : Nat} (hG : G.1 = false) (hP : P ≤ 8) (hk : X 47 7 = nI P) (h1 : X 79 1 = nI old) (h2 : X 79 2 = nI m) (hold : old < 8) (hm : m ≤ 8) (hQ0 : (strk P 64 (lv X 61 5) 0 0).2.2 = 0 → ∀ g, Q [.int (nI 0)] 231 sl (mem (strX X P g) Y)) (hQ1 : 0 < (strk P 64 (lv X 61 5) 0 0).2.2 → ∀ g, Q [.int (nI (strk P 64 (lv X 61 5) 0 0).2.2)] 231 sl (mem (pushX (strX X P g) old m 70) Y)) : aw ET G (d + 11) 88 0 [some (.ref 0), none] [] 231 sl (mem X Y) Q := by
  have hc : ∀ (Q : List Value → Nat → Nat → ai_M → Prop), aw ET G (d + 10) 53 0 [some (.ref 70), some (.ref 61)] [] 231 sl (mem X Y) Q = Q [] 231 sl (mem (plv X 70 (cpyL (lv X 70) (lv X 61))) Y) := fun Q => lcopyM (d := d + 9) hG (by simp [isLf]) (by simp [isLf]) (by omega)
  have hl : lv (plv X 70 (cpyL (lv X 70) (lv X 61))) 61 = lv X 61 := lv_plv_ne (by omega)
  have hs := fun (Q : List Value → Nat → Nat → ai_M → Prop) => strikeM_61 (G := G) (d := d) (sl := sl) (Q := Q) (Y := Y) (X := plv X 70 (cpyL (lv X 70) (lv X 61))) hP (by rw [plv_out (by omega)]; exact hk)
  rw [hl] at hs
  simp (disch := omega) [w88_0, x88_1_0, w88_4, x88_5_0, x88_8_55, x88_11_61, x88_11_70, w88_14, x88_15_0, x88_18_55, x88_21_61, x88_21_70, w88_24, w88_25, w88_26, x88_27_0, x88_30_55, x88_33_61, x88_33_70, w88_36, x88_37_0, x88_40_61, x88_40_70, w88_43, x88_44, w88_47, w88_48, w88_51, x88_52_0, w88_55, x88_56_0, x88_59_79, w88_62, w88_63, rt88, aw_st, ai_cls, ai_len, ai_p, ai_sw, ai_m, ai_c, ai_at, ai_isI, ai_isJ, ai_isA, ai_ld, ai_1i, ai_2i, ai_2l, ai_cn, ai_j, ai_set, ai_set2, ai_nl, ai_rs, ai_sm, Value.category, hk0, hk1, lits, litb, litm, litm2, List.getElem?_cons_zero, List.getElem?_cons_succ, or_n0, bit_r, fi0, fi1, fi2, fi3, nI_toInt, nI_add, pk_mul, nI_leI, nI_ltI, nI_eq, pk_sub, ib_nI, nI_clamp, va_up_self, va_up_ne, va_up_up, va_up_comm, pk_us, pk_un, upd_up, updL_up, pk_uLs, pk_uLn, b01_1, b01_0, b01_1s, b01_0s, or_b, hc]
  refine hs _ (fun g => ?_)
  have hb := strk_c (P := P) 64 (lv X 61 5) 0 0
  have e61 : plv (plv X 70 (cpyL (lv X 70) (lv X 61))) 61 (stG P (lv X 61) g) 61 12 = X 61 12 + (strk P 64 (lv X 61 5) 0 0).2.1 := by
    rw [show plv (plv X 70 (cpyL (lv X 70) (lv X 61))) 61 (stG P (lv X 61) g) 61 12 = stG P (lv X 61) g 12 0 from lv_plv_num (X := plv X 70 (cpyL (lv X 70) (lv X 61))) (l := stG P (lv X 61) g) (o := 61) (j := 12) (by omega) (by omega)]
    show (strk P 64 (lv X 61 5) (lv X 61 12 0) 0).2.1 = _
    rw [strk_0]
    rfl
  have e70 : plv (plv X 70 (cpyL (lv X 70) (lv X 61))) 61 (stG P (lv X 61) g) 70 12 = X 61 12 := by
    rw [plv_out (by omega), show plv X 70 (cpyL (lv X 70) (lv X 61)) 70 12 = cpyL (lv X 70) (lv X 61) 12 0 from lv_plv_num (X := X) (l := cpyL (lv X 70) (lv X 61)) (o := 70) (j := 12) (by omega) (by omega)]
    rfl
  have e0 : plv (plv X 70 (cpyL (lv X 70) (lv X 61))) 61 (stG P (lv X 61) g) 0 = X 0 := by rw [plv_out (by omega), plv_out (by omega)]
  have ex : va_up (plv (plv X 70 (cpyL (lv X 70) (lv X 61))) 61 (stG P (lv X 61) g)) 0 (upd (X 0) 17 (strk P 64 (lv X 61 5) (nI 0) 0).2.1) = strX X P g := rfl
  have q79 : strX X P g 79 = X 79 := by unfold strX; simp only [va_up, show ¬ 79 = 0 by omega, if_false]; rw [plv_out (by omega), plv_out (by omega)]
  by_cases hz : (strk P 64 (lv X 61 5) 0 0).2.2 = 0
  · have := hQ0 hz g
    rw [hz]
    simp (disch := omega) [w88_0, x88_1_0, w88_4, x88_5_0, x88_8_55, x88_11_61, x88_11_70, w88_14, x88_15_0, x88_18_55, x88_21_61, x88_21_70, w88_24, w88_25, w88_26, x88_27_0, x88_30_55, x88_33_61, x88_33_70, w88_36, x88_37_0, x88_40_61, x88_40_70, w88_43, x88_44, w88_47, w88_48, w88_51, x88_52_0, w88_55, x88_56_0, x88_59_79, w88_62, w88_63, rt88, aw_st, ai_cls, ai_len, ai_p, ai_sw, ai_m, ai_c, ai_at, ai_isI, ai_isJ, ai_isA, ai_ld, ai_1i, ai_2i, ai_2l, ai_cn, ai_j, ai_set, ai_set2, ai_nl, ai_rs, ai_sm, Value.category, hk0, hk1, lits, litb, litm, litm2, List.getElem?_cons_zero, List.getElem?_cons_succ, or_n0, bit_r, fi0, fi1, fi2, fi3, nI_toInt, nI_add, pk_mul, nI_leI, nI_ltI, nI_eq, pk_sub, ib_nI, nI_clamp, va_up_self, va_up_ne, va_up_up, va_up_comm, pk_us, pk_un, upd_up, updL_up, pk_uLs, pk_uLn, b01_1, b01_0, b01_1s, b01_0s, or_b, e61, e70, e0, add_sub_i, ex]
    exact this
  · have := hQ1 (by omega) g
    have hp := fun (Q : List Value → Nat → Nat → ai_M → Prop) => push_eq' (G := G) (d := d + 8) (sl := sl) (Q := Q) (Y := Y) (X := strX X P g) (o := 70) (old := old) (m := m) hG (Or.inr rfl) (by rw [q79]; exact h1) (by rw [q79]; exact h2) hold hm
    have hle : ¬ nI (strk P 64 (lv X 61 5) (nI 0) 0).2.2 ≤ nI 0 := by
      have h5 : ¬ nI (strk P 64 (lv X 61 5) 0 0).2.2 ≤ nI 0 := by
        rw [nI_leI (by omega) (by omega)]
        omega
      exact h5
    simp (disch := omega) [w88_0, x88_1_0, w88_4, x88_5_0, x88_8_55, x88_11_61, x88_11_70, w88_14, x88_15_0, x88_18_55, x88_21_61, x88_21_70, w88_24, w88_25, w88_26, x88_27_0, x88_30_55, x88_33_61, x88_33_70, w88_36, x88_37_0, x88_40_61, x88_40_70, w88_43, x88_44, w88_47, w88_48, w88_51, x88_52_0, w88_55, x88_56_0, x88_59_79, w88_62, w88_63, rt88, aw_st, ai_cls, ai_len, ai_p, ai_sw, ai_m, ai_c, ai_at, ai_isI, ai_isJ, ai_isA, ai_ld, ai_1i, ai_2i, ai_2l, ai_cn, ai_j, ai_set, ai_set2, ai_nl, ai_rs, ai_sm, Value.category, hk0, hk1, lits, litb, litm, litm2, List.getElem?_cons_zero, List.getElem?_cons_succ, or_n0, bit_r, fi0, fi1, fi2, fi3, nI_toInt, nI_add, pk_mul, nI_ltI, nI_eq, pk_sub, ib_nI, nI_clamp, va_up_self, va_up_ne, va_up_up, va_up_comm, pk_us, pk_un, upd_up, updL_up, pk_uLs, pk_uLn, b01_1, b01_0, b01_1s, b01_0s, or_b, e61, e70, e0, add_sub_i, hle, ex, hp]
    exact this
theorem thour_wp (hG : G.1 = false) (hP : P ≤ 8) (hk : X 47 7 = nI P) (hQ : ∀ pr0 b0, (∀ q, q < 8 → pr0 q = 0) → (∀ q, q < 8 → b0 q = 0) → Q [.int (hT (lv X 61) (cv X 47) P 8 0 0 pr0 (b0, mi1)).2] 231 sl (mem (hsX (va_up X 35 (upd (X 35) 3 (nI P))) pr0 (hT (lv X 61) (cv X 47) P 8 0 0 pr0 (b0, mi1)).1 (hT (lv X 61) (cv X 47) P 8 0 0 pr0 (b0, mi1)).2) Y)) : aw ET G (d + 21) 99 0 [some (.ref 0)] [] 231 sl (mem X Y) Q := by
  simp (disch := omega) [w99_0, x99_1_0, w99_4, x99_5_0, x99_8_55, x99_11_35, w99_14, rt99, aw_st, ai_cls, ai_len, ai_p, ai_sw, ai_m, ai_c, ai_at, ai_isI, ai_isJ, ai_isA, ai_ld, ai_1i, ai_2i, ai_2l, ai_cn, ai_j, ai_set, ai_set2, ai_nl, ai_rs, ai_sm, Value.category, hk0, hk1, lits, litb, litm, litm2, List.getElem?_cons_zero, List.getElem?_cons_succ, or_n0, bit_r, fi0, fi1, fi2, fi3, nI_toInt, nI_add, pk_mul, nI_leI, nI_ltI, nI_eq, pk_sub, ib_nI, nI_clamp, va_up_self, va_up_ne, va_up_up, va_up_comm, pk_us, pk_un, upd_up, updL_up, pk_uLs, pk_uLn, b01_1, b01_0, b01_1s, b01_0s, or_b]
  refine arrange_wp (d := d) hG hP hk (fun pr0 b0 g1 g2 => ?_)
  have := hQ pr0 b0 g1 g2
  simp (disch := omega) [w99_0, x99_1_0, w99_4, x99_5_0, x99_8_55, x99_11_35, w99_14, rt99, aw_st, ai_cls, ai_len, ai_p, ai_sw, ai_m, ai_c, ai_at, ai_isI, ai_isJ, ai_isA, ai_ld, ai_1i, ai_2i, ai_2l, ai_cn, ai_j, ai_set, ai_set2, ai_nl, ai_rs, ai_sm, Value.category, hk0, hk1, lits, litb, litm, litm2, List.getElem?_cons_zero, List.getElem?_cons_succ, or_n0, bit_r, fi0, fi1, fi2, fi3, nI_toInt, nI_add, pk_mul, nI_leI, nI_ltI, nI_eq, pk_sub, ib_nI, nI_clamp, va_up_self, va_up_ne, va_up_up, va_up_comm, pk_us, pk_un, upd_up, updL_up, pk_uLs, pk_uLn, b01_1, b01_0, b01_1s, b01_0s, or_b]
  exact this
end TWR
