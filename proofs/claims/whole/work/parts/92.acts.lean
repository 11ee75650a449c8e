/-! THE CLASS'S ACTS, I -/
section ACT
variable {G : ai_G} {d sl : Nat} {Q : List Value → Nat → Nat → ai_M → Prop} {P S : Nat} {Y : mY} {X : mX} {l l' k : Nat → Nat → Int32}
def isHT (o : Nat) : Prop := o = 61 ∨ o = 70
theorem isHT.lf {o : Nat} (h : isHT o) : isLf o := by rcases h with rfl | rfl <;> simp [isLf]
theorem isHT.ch {o : Nat} (h : isHT o) : chO o = 47 := by rcases h with rfl | rfl <;> rfl
theorem ch47 : isCh 47 := Or.inr (Or.inl rfl)
theorem isHT.ap {o : Nat} (h : isHT o) : apart o 47 := by rcases h with rfl | rfl <;> simp [apart]
theorem lf_mem' {o : Nat} (h : isHT o) : lf (mem X Y) 231 o 47 (lv X o) := by
  have := lf_mem (X := X) (Y := Y) h.lf
  rw [h.ch] at this
  exact this
theorem mem_of_lf' {o : Nat} (h : isHT o) {M' : ai_M} {l : Nat → Nat → Int32} (hl : lf M' 231 o 47 l) (hk : ∀ j, j < o ∨ o + 8 < j → M' j = mem X Y j) : M' = mem (plv X o l) Y := by
  refine mem_of_lf h.lf ?_ hk
  rw [h.ch]
  exact hl
theorem hearM {o a b : Nat} {x : Int32} (ho : isHT o) (ha : a < 8) (hb : b < 8) : aw ET G (d + 2) 72 0 [some (.ref o), some (.int (nI a)), some (.int (nI b)), some (.int x)] [] 231 sl (mem X Y) Q = Q [] 231 sl (mem (plv X o (hearL (lv X o) (cv X 47) a b x)) Y) := by
  refine aw_out (fun Q hQ => ?_) Q
  refine liveHearing_wp (lf_mem' ho) (ch_mem ch47) ho.ap ha hb (fun M' h1 h2 => ?_)
  rw [mem_of_lf' ho h1 h2]
  exact hQ
theorem tellM {o a b c : Nat} (ho : isHT o) (ha : a < 8) (hb : b < 8) (hc : c < 8) : aw ET G (d + 3) 80 0 [some (.ref o), some (.int (nI a)), some (.int (nI b)), some (.int (nI c)), none] [] 231 sl (mem X Y) Q = Q [.int (worI (cv X 47) c (lv X o 6 c))] 231 sl (mem (plv X o (tellL (lv X o) (cv X 47) a b c)) Y) := by
  refine aw_out (fun Q hQ => ?_) Q
  refine liveTelling_wp (lf_mem' ho) (ch_mem ch47) ha hb hc (fun M' h1 h2 => ?_)
  rw [mem_of_lf' ho h1 h2]
  exact hQ
theorem dayM {o : Nat} (ho : isHT o) (hP : P ≤ 8) (hk : X 47 7 = nI P) : aw ET G (d + 3) 86 0 [some (.ref o), none] [] 231 sl (mem X Y) Q = Q [] 231 sl (mem (plv X o (dayR (cv X 47) 0 P (lv X o))) Y) := by
  refine aw_out (fun Q hQ => ?_) Q
  refine goDay_wp hP (show cv X 47 7 0 = nI P from hk) (lf_mem' ho) (ch_mem ch47) ho.ap (fun M' h1 h2 => ?_)
  rw [mem_of_lf' ho h1 h2]
  exact hQ
theorem daysM {o N : Nat} (ho : isHT o) (hP : P ≤ 8) (hk : X 47 7 = nI P) (hN : N < 1000) : aw ET G (d + 4) 85 0 [some (.ref o), some (.int (nI N)), none] [] 231 sl (mem X Y) Q = Q [] 231 sl (mem (plv X o (daysR (cv X 47) P N (lv X o))) Y) := by
  refine aw_out (fun Q hQ => ?_) Q
  refine goDays_wp hP (show cv X 47 7 0 = nI P from hk) (lf_mem' ho) (ch_mem ch47) ho.ap hN (fun M' h1 h2 => ?_)
  rw [mem_of_lf' ho h1 h2]
  exact hQ
theorem canM {o : Nat} (ho : isHT o) {x : Int32} : aw ET G d 84 0 [some (.ref o), some (.int x)] [] 231 sl (mem X Y) Q = Q [.int (b01 (¬ 9999 < lv X o 10 0 + x))] 231 sl (mem X Y) := canGo_eq (lf_mem' ho)
theorem tlwM {o a b s : Nat} (ho : isHT o) (ha : a < 8) (hb : b < 8) (hs : s < 8) : aw ET G (d + 1) 78 0 [some (.ref o), some (.int (nI a)), some (.int (nI b)), some (.int (nI s))] [] 231 sl (mem X Y) Q = Q [.int (tellI (lv X o) a b s)] 231 sl (mem X Y) := whyNotTell_eq (lf_mem' ho) ha hb hs
theorem whyM' {o a b : Nat} {x : Int32} (ho : isHT o) (ha : a < 8) (hb : b < 8) : aw ET G (d + 1) 68 0 [some (.ref o), some (.int (nI a)), some (.int (nI b)), some (.int x)] [] 231 sl (mem X Y) Q = Q [.int (whyI (lv X o) (cv X 47) a b x)] 231 sl (mem X Y) := whyNotHear_eq (lf_mem' ho) (ch_mem ch47) ha hb
/-- after an act was put by -/
def pushX (X : mX) (old m o : Nat) : mX := plv (psX X (if m = 8 then (old + 1) % 8 else old) (pushN m)) (if m = 8 then slot old 0 else slot old m) (cpyL (lv X (if m = 8 then slot old 0 else slot old m)) (lv X o))
theorem lv_pushX {old m o q : Nat} (hq : isHT q) : lv (pushX X old m o) q = lv X q := by
  unfold pushX
  have h0 := slot_ge old 0
  have h1 := slot_ge old m
  have : q = 61 ∨ q = 70 := hq
  rw [lv_plv_ne (by split <;> omega)]
  unfold psX
  rw [lv_up (by omega)]
theorem cv_pushX {old m o : Nat} : cv (pushX X old m o) 47 = cv X 47 := by
  unfold pushX
  have h0 := slot_ge old 0
  have h1 := slot_ge old m
  rw [cv_plv (by split <;> omega)]
  unfold psX
  rw [cv_up (by omega)]
theorem pushX_at {old m o j : Nat} (h : j < 79 ∨ 152 < j) : pushX X old m o j = X j := by
  unfold pushX
  have h0 := slot_ge old 0
  have h1 := slot_ge old m
  rw [plv_out (by split <;> omega)]
  unfold psX
  simp [va_up, show ¬ j = 79 by omega]
theorem push_eq' {o old m : Nat} (hG : G.1 = false) (ho : isHT o) (h1 : X 79 1 = nI old) (h2 : X 79 2 = nI m) (hold : old < 8) (hm : m ≤ 8) : aw ET G (d + 2) 71 0 [some (.ref 79), some (.ref o)] [] 231 sl (mem X Y) Q = Q [] 231 sl (mem (pushX X old m o) Y) := push_eq hG ho h1 h2 hold hm
set_option maxHeartbeats 4000000 in
theorem thear_wp {old m : Nat} {x y z : Int32} (hG : G.1 = false) (hP : P ≤ 8) (hk : X 47 7 = nI P) (h1 : X 79 1 = nI old) (h2 : X 79 2 = nI m) (hold : old < 8) (hm : m ≤ 8) (hQ1 : ¬ whyR P (lv X 61) (cv X 47) x y z = 0 → Q [.int (whyR P (lv X 61) (cv X 47) x y z)] 231 sl (mem X Y)) (hQ2 : ∀ a b c, x = nI a → y = nI b → z = nI c → a < P → b < P → 1 ≤ c → c ≤ 24 → whyI (lv X 61) (cv X 47) a b (nI c) = 0 → Q [.int 0] 231 sl (mem (plv (pushX X old m 61) 61 (hearL (lv X 61) (cv X 47) a b (nI c))) Y)) : aw ET G (d + 3) 70 0 [some (.ref 0), some (.int x), some (.int y), some (.int z), none] [] 231 sl (mem X Y) Q := by
  have hp : ∀ (x y : Int32) (Q : List Value → Nat → Nat → ai_M → Prop), aw ET G (d + 2) 58 0 [some (.ref 0), some (.int x), some (.int y)] [] 231 sl (mem X Y) Q = Q [.int (b01 ((pI P x && pI P y) = true))] 231 sl (mem X Y) := fun x y Q => areP_eq hP hk
  unfold whyR at hQ1
  cases hx : okH P x y z
  · have := hQ1 (by rw [hx, if_neg (by decide)]; decide)
    rw [hx] at this
    unfold okH at hx
    cases e1 : pI P x
    · simp (disch := omega) [w70_0, w70_1, w70_2, x70_3_0, w70_6, w70_9, x70_10, w70_13, w70_16, w70_17, w70_18, x70_19_0, x70_22_55, w70_25, w70_26, w70_27, x70_28_61, w70_31, w70_33, w70_35, w70_38, x70_39_0, w70_42, x70_43_0, x70_46_55, x70_49_79, w70_52, x70_53_0, x70_56_55, w70_59, w70_60, w70_61, x70_62_61, w70_65, w70_67, rt70, aw_st, ai_cls, ai_len, ai_p, ai_sw, ai_m, ai_c, ai_at, ai_isI, ai_isJ, ai_isA, ai_ld, ai_1i, ai_2i, ai_2l, ai_cn, ai_j, ai_set, ai_set2, ai_nl, ai_rs, ai_sm, Value.category, hk0, hk1, lits, litb, litm, litm2, List.getElem?_cons_zero, List.getElem?_cons_succ, or_n0, bit_r, fi0, fi1, fi2, fi3, nI_toInt, nI_add, pk_mul, nI_leI, nI_ltI, nI_eq, pk_sub, ib_nI, nI_clamp, va_up_self, va_up_ne, va_up_up, va_up_comm, pk_us, pk_un, upd_up, updL_up, pk_uLs, pk_uLn, b01_1, b01_0, b01_1s, b01_0s, or_b, hp, e1]; exact this
    · cases e2 : pI P y
      · simp (disch := omega) [w70_0, w70_1, w70_2, x70_3_0, w70_6, w70_9, x70_10, w70_13, w70_16, w70_17, w70_18, x70_19_0, x70_22_55, w70_25, w70_26, w70_27, x70_28_61, w70_31, w70_33, w70_35, w70_38, x70_39_0, w70_42, x70_43_0, x70_46_55, x70_49_79, w70_52, x70_53_0, x70_56_55, w70_59, w70_60, w70_61, x70_62_61, w70_65, w70_67, rt70, aw_st, ai_cls, ai_len, ai_p, ai_sw, ai_m, ai_c, ai_at, ai_isI, ai_isJ, ai_isA, ai_ld, ai_1i, ai_2i, ai_2l, ai_cn, ai_j, ai_set, ai_set2, ai_nl, ai_rs, ai_sm, Value.category, hk0, hk1, lits, litb, litm, litm2, List.getElem?_cons_zero, List.getElem?_cons_succ, or_n0, bit_r, fi0, fi1, fi2, fi3, nI_toInt, nI_add, pk_mul, nI_leI, nI_ltI, nI_eq, pk_sub, ib_nI, nI_clamp, va_up_self, va_up_ne, va_up_up, va_up_comm, pk_us, pk_un, upd_up, updL_up, pk_uLs, pk_uLn, b01_1, b01_0, b01_1s, b01_0s, or_b, hp, e1, e2]; exact this
      · have e3 : inI (nI 1) (nI 24) z = false := by rw [e1, e2] at hx; exact hx
        simp (disch := omega) [w70_0, w70_1, w70_2, x70_3_0, w70_6, w70_9, x70_10, w70_13, w70_16, w70_17, w70_18, x70_19_0, x70_22_55, w70_25, w70_26, w70_27, x70_28_61, w70_31, w70_33, w70_35, w70_38, x70_39_0, w70_42, x70_43_0, x70_46_55, x70_49_79, w70_52, x70_53_0, x70_56_55, w70_59, w70_60, w70_61, x70_62_61, w70_65, w70_67, rt70, aw_st, ai_cls, ai_len, ai_p, ai_sw, ai_m, ai_c, ai_at, ai_isI, ai_isJ, ai_isA, ai_ld, ai_1i, ai_2i, ai_2l, ai_cn, ai_j, ai_set, ai_set2, ai_nl, ai_rs, ai_sm, Value.category, hk0, hk1, lits, litb, litm, litm2, List.getElem?_cons_zero, List.getElem?_cons_succ, or_n0, bit_r, fi0, fi1, fi2, fi3, nI_toInt, nI_add, pk_mul, nI_leI, nI_ltI, nI_eq, pk_sub, ib_nI, nI_clamp, va_up_self, va_up_ne, va_up_up, va_up_comm, pk_us, pk_un, upd_up, updL_up, pk_uLs, pk_uLn, b01_1, b01_0, b01_1s, b01_0s, or_b, hp, e1, e2, isTalkLength_eq, e3]; exact this
  · obtain ⟨a, b, c, ha, hb, c1, c2, rfl, rfl, rfl⟩ := okH_nat hP hx
    rw [hx, iN_nI (by omega), iN_nI (by omega)] at hQ1
    have e1 : pI P (nI a) = true := pI_nI ha (by omega)
    have e2 : pI P (nI b) = true := pI_nI hb (by omega)
    have e3 : inI (nI 1) (nI 24) (nI c) = true := by
      unfold okH at hx; rw [e1, e2] at hx; exact hx
    have hw : ∀ (Q : List Value → Nat → Nat → ai_M → Prop), aw ET G (d + 2) 68 0 [some (.ref 61), some (.int (nI a)), some (.int (nI b)), some (.int (nI c))] [] 231 sl (mem X Y) Q = Q [.int (whyI (lv X 61) (cv X 47) a b (nI c))] 231 sl (mem X Y) := fun Q => whyM' (Or.inl rfl) (by omega) (by omega)
    by_cases hz : whyI (lv X 61) (cv X 47) a b (nI c) = nI 0
    · have hh : ∀ (Q : List Value → Nat → Nat → ai_M → Prop), aw ET G (d + 2) 72 0 [some (.ref 61), some (.int (nI a)), some (.int (nI b)), some (.int (nI c))] [] 231 sl (mem (pushX X old m 61) Y) Q = Q [] 231 sl (mem (plv (pushX X old m 61) 61 (hearL (lv X 61) (cv X 47) a b (nI c))) Y) := fun Q => by
        rw [hearM (Or.inl rfl) (by omega) (by omega), lv_pushX (Or.inl rfl), cv_pushX]
      simp (disch := omega) [w70_0, w70_1, w70_2, x70_3_0, w70_6, w70_9, x70_10, w70_13, w70_16, w70_17, w70_18, x70_19_0, x70_22_55, w70_25, w70_26, w70_27, x70_28_61, w70_31, w70_33, w70_35, w70_38, x70_39_0, w70_42, x70_43_0, x70_46_55, x70_49_79, w70_52, x70_53_0, x70_56_55, w70_59, w70_60, w70_61, x70_62_61, w70_65, w70_67, rt70, aw_st, ai_cls, ai_len, ai_p, ai_sw, ai_m, ai_c, ai_at, ai_isI, ai_isJ, ai_isA, ai_ld, ai_1i, ai_2i, ai_2l, ai_cn, ai_j, ai_set, ai_set2, ai_nl, ai_rs, ai_sm, Value.category, hk0, hk1, lits, litb, litm, litm2, List.getElem?_cons_zero, List.getElem?_cons_succ, or_n0, bit_r, fi0, fi1, fi2, fi3, nI_toInt, nI_add, pk_mul, nI_leI, nI_ltI, nI_eq, pk_sub, ib_nI, nI_clamp, va_up_self, va_up_ne, va_up_up, va_up_comm, pk_us, pk_un, upd_up, updL_up, pk_uLs, pk_uLn, b01_1, b01_0, b01_1s, b01_0s, or_b, hp, e1, e2, e3, isTalkLength_eq, hw, hz, push_eq' hG (Or.inl rfl) h1 h2 hold hm, hh]
      exact hQ2 a b c rfl rfl rfl ha hb c1 c2 hz
    · have := hQ1 hz
      simp (disch := omega) [w70_0, w70_1, w70_2, x70_3_0, w70_6, w70_9, x70_10, w70_13, w70_16, w70_17, w70_18, x70_19_0, x70_22_55, w70_25, w70_26, w70_27, x70_28_61, w70_31, w70_33, w70_35, w70_38, x70_39_0, w70_42, x70_43_0, x70_46_55, x70_49_79, w70_52, x70_53_0, x70_56_55, w70_59, w70_60, w70_61, x70_62_61, w70_65, w70_67, rt70, aw_st, ai_cls, ai_len, ai_p, ai_sw, ai_m, ai_c, ai_at, ai_isI, ai_isJ, ai_isA, ai_ld, ai_1i, ai_2i, ai_2l, ai_cn, ai_j, ai_set, ai_set2, ai_nl, ai_rs, ai_sm, Value.category, hk0, hk1, lits, litb, litm, litm2, List.getElem?_cons_zero, List.getElem?_cons_succ, or_n0, bit_r, fi0, fi1, fi2, fi3, nI_toInt, nI_add, pk_mul, nI_leI, nI_ltI, nI_eq, pk_sub, ib_nI, nI_clamp, va_up_self, va_up_ne, va_up_up, va_up_comm, pk_us, pk_un, upd_up, updL_up, pk_uLs, pk_uLn, b01_1, b01_0, b01_1s, b01_0s, or_b, hp, e1, e2, e3, isTalkLength_eq, hw, hz]
      exact this
set_option maxHeartbeats 4000000 in
theorem ttell_wp {old m : Nat} {x y z : Int32} (hG : G.1 = false) (hP : P ≤ 8) (hS : S ≤ 8) (hk : X 47 7 = nI P) (hk2 : X 47 8 = nI S) (h1 : X 79 1 = nI old) (h2 : X 79 2 = nI m) (hold : old < 8) (hm : m ≤ 8) (hQ1 : ¬ tellW P S (lv X 61) x y z = 0 → Q [.int (if okT P S x y z = true then mi2 - tellW P S (lv X 61) x y z else mi1)] 231 sl (mem X Y)) (hQ2 : ∀ a b c, x = nI a → y = nI b → z = nI c → a < P → b < P → c < S → tellI (lv X 61) a b c = 0 → Q [.int (worI (cv X 47) c (lv X 61 6 c))] 231 sl (mem (plv (pushX X old m 61) 61 (tellL (lv X 61) (cv X 47) a b c)) Y)) : aw ET G (d + 4) 76 0 [some (.ref 0), some (.int x), some (.int y), some (.int z), none] [] 231 sl (mem X Y) Q := by
  have hp : ∀ (x y : Int32) (Q : List Value → Nat → Nat → ai_M → Prop), aw ET G (d + 3) 58 0 [some (.ref 0), some (.int x), some (.int y)] [] 231 sl (mem X Y) Q = Q [.int (b01 ((pI P x && pI P y) = true))] 231 sl (mem X Y) := fun x y Q => areP_eq hP hk
  have hs : ∀ (x : Int32) (Q : List Value → Nat → Nat → ai_M → Prop), aw ET G (d + 3) 77 0 [some (.ref 47), some (.int x)] [] 231 sl (mem X Y) Q = Q [.int (b01 (pI S x = true))] 231 sl (mem X Y) := fun x Q => hasS_47 hS hk2
  unfold tellW at hQ1
  cases hx : okT P S x y z
  · have := hQ1 (by rw [hx, if_neg (by decide)]; decide)
    rw [hx] at this
    unfold okT at hx
    cases e1 : pI P x
    · simp (disch := omega) [w76_0, w76_1, w76_2, x76_3_0, w76_6, w76_9, x76_10_0, x76_13_55, w76_16, x76_17_47, w76_20, w76_23, w76_24, w76_25, x76_26_0, x76_29_55, w76_32, w76_33, w76_34, x76_35_61, w76_38, w76_40, w76_42, w76_45, w76_47, w76_49, w76_50, w76_51, x76_52_0, w76_55, x76_56_0, x76_59_55, x76_62_79, w76_65, x76_66_0, x76_69_55, w76_72, w76_73, w76_74, x76_75_61, w76_78, rt76, aw_st, ai_cls, ai_len, ai_p, ai_sw, ai_m, ai_c, ai_at, ai_isI, ai_isJ, ai_isA, ai_ld, ai_1i, ai_2i, ai_2l, ai_cn, ai_j, ai_set, ai_set2, ai_nl, ai_rs, ai_sm, Value.category, hk0, hk1, lits, litb, litm, litm2, List.getElem?_cons_zero, List.getElem?_cons_succ, or_n0, bit_r, fi0, fi1, fi2, fi3, nI_toInt, nI_add, pk_mul, nI_leI, nI_ltI, nI_eq, pk_sub, ib_nI, nI_clamp, va_up_self, va_up_ne, va_up_up, va_up_comm, pk_us, pk_un, upd_up, updL_up, pk_uLs, pk_uLn, b01_1, b01_0, b01_1s, b01_0s, or_b, hp, e1]; exact this
    · cases e2 : pI P y
      · simp (disch := omega) [w76_0, w76_1, w76_2, x76_3_0, w76_6, w76_9, x76_10_0, x76_13_55, w76_16, x76_17_47, w76_20, w76_23, w76_24, w76_25, x76_26_0, x76_29_55, w76_32, w76_33, w76_34, x76_35_61, w76_38, w76_40, w76_42, w76_45, w76_47, w76_49, w76_50, w76_51, x76_52_0, w76_55, x76_56_0, x76_59_55, x76_62_79, w76_65, x76_66_0, x76_69_55, w76_72, w76_73, w76_74, x76_75_61, w76_78, rt76, aw_st, ai_cls, ai_len, ai_p, ai_sw, ai_m, ai_c, ai_at, ai_isI, ai_isJ, ai_isA, ai_ld, ai_1i, ai_2i, ai_2l, ai_cn, ai_j, ai_set, ai_set2, ai_nl, ai_rs, ai_sm, Value.category, hk0, hk1, lits, litb, litm, litm2, List.getElem?_cons_zero, List.getElem?_cons_succ, or_n0, bit_r, fi0, fi1, fi2, fi3, nI_toInt, nI_add, pk_mul, nI_leI, nI_ltI, nI_eq, pk_sub, ib_nI, nI_clamp, va_up_self, va_up_ne, va_up_up, va_up_comm, pk_us, pk_un, upd_up, updL_up, pk_uLs, pk_uLn, b01_1, b01_0, b01_1s, b01_0s, or_b, hp, e1, e2]; exact this
      · have e3 : pI S z = false := by rw [e1, e2] at hx; exact hx
        simp (disch := omega) [w76_0, w76_1, w76_2, x76_3_0, w76_6, w76_9, x76_10_0, x76_13_55, w76_16, x76_17_47, w76_20, w76_23, w76_24, w76_25, x76_26_0, x76_29_55, w76_32, w76_33, w76_34, x76_35_61, w76_38, w76_40, w76_42, w76_45, w76_47, w76_49, w76_50, w76_51, x76_52_0, w76_55, x76_56_0, x76_59_55, x76_62_79, w76_65, x76_66_0, x76_69_55, w76_72, w76_73, w76_74, x76_75_61, w76_78, rt76, aw_st, ai_cls, ai_len, ai_p, ai_sw, ai_m, ai_c, ai_at, ai_isI, ai_isJ, ai_isA, ai_ld, ai_1i, ai_2i, ai_2l, ai_cn, ai_j, ai_set, ai_set2, ai_nl, ai_rs, ai_sm, Value.category, hk0, hk1, lits, litb, litm, litm2, List.getElem?_cons_zero, List.getElem?_cons_succ, or_n0, bit_r, fi0, fi1, fi2, fi3, nI_toInt, nI_add, pk_mul, nI_leI, nI_ltI, nI_eq, pk_sub, ib_nI, nI_clamp, va_up_self, va_up_ne, va_up_up, va_up_comm, pk_us, pk_un, upd_up, updL_up, pk_uLs, pk_uLn, b01_1, b01_0, b01_1s, b01_0s, or_b, hp, hs, e1, e2, e3]; exact this
  · obtain ⟨a, b, c, ha, hb, hc, rfl, rfl, rfl⟩ := okT_nat hP hS hx
    rw [hx, iN_nI (by omega), iN_nI (by omega), iN_nI (by omega)] at hQ1
    have e1 : pI P (nI a) = true := pI_nI ha (by omega)
    have e2 : pI P (nI b) = true := pI_nI hb (by omega)
    have e3 : pI S (nI c) = true := pI_nI hc (by omega)
    have hw : ∀ (Q : List Value → Nat → Nat → ai_M → Prop), aw ET G (d + 3) 78 0 [some (.ref 61), some (.int (nI a)), some (.int (nI b)), some (.int (nI c))] [] 231 sl (mem X Y) Q = Q [.int (tellI (lv X 61) a b c)] 231 sl (mem X Y) := fun Q => tlwM (Or.inl rfl) (by omega) (by omega) (by omega)
    by_cases hz : tellI (lv X 61) a b c = nI 0
    · have hh : ∀ (Q : List Value → Nat → Nat → ai_M → Prop), aw ET G (d + 3) 80 0 [some (.ref 61), some (.int (nI a)), some (.int (nI b)), some (.int (nI c)), none] [] 231 sl (mem (pushX X old m 61) Y) Q = Q [.int (worI (cv X 47) c (lv X 61 6 c))] 231 sl (mem (plv (pushX X old m 61) 61 (tellL (lv X 61) (cv X 47) a b c)) Y) := fun Q => by
        rw [tellM (Or.inl rfl) (by omega) (by omega) (by omega), lv_pushX (Or.inl rfl), cv_pushX]
      simp (disch := omega) [w76_0, w76_1, w76_2, x76_3_0, w76_6, w76_9, x76_10_0, x76_13_55, w76_16, x76_17_47, w76_20, w76_23, w76_24, w76_25, x76_26_0, x76_29_55, w76_32, w76_33, w76_34, x76_35_61, w76_38, w76_40, w76_42, w76_45, w76_47, w76_49, w76_50, w76_51, x76_52_0, w76_55, x76_56_0, x76_59_55, x76_62_79, w76_65, x76_66_0, x76_69_55, w76_72, w76_73, w76_74, x76_75_61, w76_78, rt76, aw_st, ai_cls, ai_len, ai_p, ai_sw, ai_m, ai_c, ai_at, ai_isI, ai_isJ, ai_isA, ai_ld, ai_1i, ai_2i, ai_2l, ai_cn, ai_j, ai_set, ai_set2, ai_nl, ai_rs, ai_sm, Value.category, hk0, hk1, lits, litb, litm, litm2, List.getElem?_cons_zero, List.getElem?_cons_succ, or_n0, bit_r, fi0, fi1, fi2, fi3, nI_toInt, nI_add, pk_mul, nI_leI, nI_ltI, nI_eq, pk_sub, ib_nI, nI_clamp, va_up_self, va_up_ne, va_up_up, va_up_comm, pk_us, pk_un, upd_up, updL_up, pk_uLs, pk_uLn, b01_1, b01_0, b01_1s, b01_0s, or_b, hp, hs, e1, e2, e3, hw, hz, push_eq' hG (Or.inl rfl) h1 h2 hold hm, hh]
      exact hQ2 a b c rfl rfl rfl ha hb hc hz
    · have := hQ1 hz
      simp (disch := omega) [w76_0, w76_1, w76_2, x76_3_0, w76_6, w76_9, x76_10_0, x76_13_55, w76_16, x76_17_47, w76_20, w76_23, w76_24, w76_25, x76_26_0, x76_29_55, w76_32, w76_33, w76_34, x76_35_61, w76_38, w76_40, w76_42, w76_45, w76_47, w76_49, w76_50, w76_51, x76_52_0, w76_55, x76_56_0, x76_59_55, x76_62_79, w76_65, x76_66_0, x76_69_55, w76_72, w76_73, w76_74, x76_75_61, w76_78, rt76, aw_st, ai_cls, ai_len, ai_p, ai_sw, ai_m, ai_c, ai_at, ai_isI, ai_isJ, ai_isA, ai_ld, ai_1i, ai_2i, ai_2l, ai_cn, ai_j, ai_set, ai_set2, ai_nl, ai_rs, ai_sm, Value.category, hk0, hk1, lits, litb, litm, litm2, List.getElem?_cons_zero, List.getElem?_cons_succ, or_n0, bit_r, fi0, fi1, fi2, fi3, nI_toInt, nI_add, pk_mul, nI_leI, nI_ltI, nI_eq, pk_sub, ib_nI, nI_clamp, va_up_self, va_up_ne, va_up_up, va_up_comm, pk_us, pk_un, upd_up, updL_up, pk_uLs, pk_uLn, b01_1, b01_0, b01_1s, b01_0s, or_b, hp, hs, e1, e2, e3, hw, hz]
      exact this
set_option maxHeartbeats 4000000 in
theorem tdays_wp {old m : Nat} {x : Int32} (hG : G.1 = false) (hP : P ≤ 8) (hk : X 47 7 = nI P) (h1 : X 79 1 = nI old) (h2 : X 79 2 = nI m) (hold : old < 8) (hm : m ≤ 8) (hQ1 : okD (lv X 61) x = false → Q [.int mi1] 231 sl (mem X Y)) (hQ2 : ∀ c, x = nI c → 1 ≤ c → c ≤ 30 → okD (lv X 61) x = true → Q [.int (daysR (cv X 47) P c (lv X 61) 10 0)] 231 sl (mem (plv (pushX X old m 61) 61 (daysR (cv X 47) P c (lv X 61))) Y)) : aw ET G (d + 5) 83 0 [some (.ref 0), some (.int x)] [] 231 sl (mem X Y) Q := by
  have hc : ∀ (x : Int32) (Q : List Value → Nat → Nat → ai_M → Prop), aw ET G (d + 4) 84 0 [some (.ref 61), some (.int x)] [] 231 sl (mem X Y) Q = Q [.int (b01 (¬ 9999 < lv X 61 10 0 + x))] 231 sl (mem X Y) := fun x Q => canM (Or.inl rfl)
  cases hi : inI (nI 1) (nI 30) x
  · have := hQ1 (by unfold okD; rw [show inI 1 30 x = false from hi]; rfl)
    unfold inI at hi
    rw [decide_eq_false_iff_not] at hi
    rcases lt_or x (nI 1) with ⟨g1, g2⟩ | ⟨g1, g2⟩
    · simp (disch := omega) [w83_0, w83_1, w83_2, w83_5, w83_6, w83_8, w83_11, x83_12_0, x83_15_55, w83_18, x83_19_61, w83_22, w83_25, w83_26, w83_27, x83_28_0, w83_31, x83_32_0, x83_35_55, x83_38_79, w83_41, x83_42_0, x83_45_55, w83_48, x83_49_61, w83_52, x83_53_0, x83_56_55, x83_59_61, w83_62, rt83, aw_st, ai_cls, ai_len, ai_p, ai_sw, ai_m, ai_c, ai_at, ai_isI, ai_isJ, ai_isA, ai_ld, ai_1i, ai_2i, ai_2l, ai_cn, ai_j, ai_set, ai_set2, ai_nl, ai_rs, ai_sm, Value.category, hk0, hk1, lits, litb, litm, litm2, List.getElem?_cons_zero, List.getElem?_cons_succ, or_n0, bit_r, fi0, fi1, fi2, fi3, nI_toInt, nI_add, pk_mul, nI_leI, nI_ltI, nI_eq, pk_sub, ib_nI, nI_clamp, va_up_self, va_up_ne, va_up_up, va_up_comm, pk_us, pk_un, upd_up, updL_up, pk_uLs, pk_uLn, b01_1, b01_0, b01_1s, b01_0s, or_b, g1, g2]; exact this
    · rcases lt_or (nI 30) x with ⟨f1, f2⟩ | ⟨f1, f2⟩
      · simp (disch := omega) [w83_0, w83_1, w83_2, w83_5, w83_6, w83_8, w83_11, x83_12_0, x83_15_55, w83_18, x83_19_61, w83_22, w83_25, w83_26, w83_27, x83_28_0, w83_31, x83_32_0, x83_35_55, x83_38_79, w83_41, x83_42_0, x83_45_55, w83_48, x83_49_61, w83_52, x83_53_0, x83_56_55, x83_59_61, w83_62, rt83, aw_st, ai_cls, ai_len, ai_p, ai_sw, ai_m, ai_c, ai_at, ai_isI, ai_isJ, ai_isA, ai_ld, ai_1i, ai_2i, ai_2l, ai_cn, ai_j, ai_set, ai_set2, ai_nl, ai_rs, ai_sm, Value.category, hk0, hk1, lits, litb, litm, litm2, List.getElem?_cons_zero, List.getElem?_cons_succ, or_n0, bit_r, fi0, fi1, fi2, fi3, nI_toInt, nI_add, pk_mul, nI_leI, nI_ltI, nI_eq, pk_sub, ib_nI, nI_clamp, va_up_self, va_up_ne, va_up_up, va_up_comm, pk_us, pk_un, upd_up, updL_up, pk_uLs, pk_uLn, b01_1, b01_0, b01_1s, b01_0s, or_b, g1, g2, f1, f2]; exact this
      · exact absurd ⟨g2, f2⟩ hi
  · have hi' := hi
    unfold inI at hi'
    rw [decide_eq_true_eq] at hi'
    obtain ⟨c, c1, c2, rfl⟩ := inI_nat (by omega) (by omega) hi
    by_cases hz : (9999 : Int32) < lv X 61 10 0 + nI c
    · have := hQ1 (by unfold okD; rw [show inI 1 30 (nI c) = true from hi]; simp [hz])
      have hz' : nI 9999 < lv X 61 10 0 + nI c := hz
      simp (disch := omega) [w83_0, w83_1, w83_2, w83_5, w83_6, w83_8, w83_11, x83_12_0, x83_15_55, w83_18, x83_19_61, w83_22, w83_25, w83_26, w83_27, x83_28_0, w83_31, x83_32_0, x83_35_55, x83_38_79, w83_41, x83_42_0, x83_45_55, w83_48, x83_49_61, w83_52, x83_53_0, x83_56_55, x83_59_61, w83_62, rt83, aw_st, ai_cls, ai_len, ai_p, ai_sw, ai_m, ai_c, ai_at, ai_isI, ai_isJ, ai_isA, ai_ld, ai_1i, ai_2i, ai_2l, ai_cn, ai_j, ai_set, ai_set2, ai_nl, ai_rs, ai_sm, Value.category, hk0, hk1, lits, litb, litm, litm2, List.getElem?_cons_zero, List.getElem?_cons_succ, or_n0, bit_r, fi0, fi1, fi2, fi3, nI_toInt, nI_add, pk_mul, nI_leI, nI_ltI, nI_eq, pk_sub, ib_nI, nI_clamp, va_up_self, va_up_ne, va_up_up, va_up_comm, pk_us, pk_un, upd_up, updL_up, pk_uLs, pk_uLn, b01_1, b01_0, b01_1s, b01_0s, or_b, hc, hz', show ¬ c < 1 by omega, show ¬ 30 < c by omega]; exact this
    · have hok : okD (lv X 61) (nI c) = true := by unfold okD; rw [show inI 1 30 (nI c) = true from hi]; simp [hz]
      have hz' : ¬ nI 9999 < lv X 61 10 0 + nI c := hz
      have hh : ∀ (Q : List Value → Nat → Nat → ai_M → Prop), aw ET G (d + 4) 85 0 [some (.ref 61), some (.int (nI c)), none] [] 231 sl (mem (pushX X old m 61) Y) Q = Q [] 231 sl (mem (plv (pushX X old m 61) 61 (daysR (cv X 47) P c (lv X 61))) Y) := fun Q => by
        rw [daysM (P := P) (Or.inl rfl) hP (by rw [pushX_at (by omega)]; exact hk) (by omega), lv_pushX (Or.inl rfl), cv_pushX]
      have h10 : plv (pushX X old m 61) 61 (daysR (cv X 47) P c (lv X 61)) 61 10 = daysR (cv X 47) P c (lv X 61) 10 0 := lv_plv_num (X := pushX X old m 61) (l := daysR (cv X 47) P c (lv X 61)) (o := 61) (j := 10) (by omega) (by omega)
      simp (disch := omega) [w83_0, w83_1, w83_2, w83_5, w83_6, w83_8, w83_11, x83_12_0, x83_15_55, w83_18, x83_19_61, w83_22, w83_25, w83_26, w83_27, x83_28_0, w83_31, x83_32_0, x83_35_55, x83_38_79, w83_41, x83_42_0, x83_45_55, w83_48, x83_49_61, w83_52, x83_53_0, x83_56_55, x83_59_61, w83_62, rt83, aw_st, ai_cls, ai_len, ai_p, ai_sw, ai_m, ai_c, ai_at, ai_isI, ai_isJ, ai_isA, ai_ld, ai_1i, ai_2i, ai_2l, ai_cn, ai_j, ai_set, ai_set2, ai_nl, ai_rs, ai_sm, Value.category, hk0, hk1, lits, litb, litm, litm2, List.getElem?_cons_zero, List.getElem?_cons_succ, or_n0, bit_r, fi0, fi1, fi2, fi3, nI_toInt, nI_add, pk_mul, nI_leI, nI_ltI, nI_eq, pk_sub, ib_nI, nI_clamp, va_up_self, va_up_ne, va_up_up, va_up_comm, pk_us, pk_un, upd_up, updL_up, pk_uLs, pk_uLn, b01_1, b01_0, b01_1s, b01_0s, or_b, hc, hz', show ¬ c < 1 by omega, show ¬ 30 < c by omega, push_eq' hG (Or.inl rfl) h1 h2 hold hm, hh, h10]
      exact hQ2 c rfl c1 c2 hok
set_option maxHeartbeats 4000000 in
theorem tundo_eq {old m : Nat} (hG : G.1 = false) (h1 : X 79 1 = nI old) (h2 : X 79 2 = nI m) (hold : old < 8) (hm : m ≤ 8) : aw ET G (d + 3) 94 0 [some (.ref 0)] [] 231 sl (mem X Y) Q = if m = 0 then Q [.int mi1] 231 sl (mem X Y) else Q [.int (nI (m - 1))] 231 sl (mem (plv (psX X old (m - 1)) 61 (cpyL (lv X 61) (lv X (slot old (m - 1))))) Y) := by
  by_cases c : m = 0
  · simp (disch := omega) [w94_0, x94_1_0, w94_4, x94_5_0, x94_8_55, x94_11_79, w94_14, rt94, aw_st, ai_cls, ai_len, ai_p, ai_sw, ai_m, ai_c, ai_at, ai_isI, ai_isJ, ai_isA, ai_ld, ai_1i, ai_2i, ai_2l, ai_cn, ai_j, ai_set, ai_set2, ai_nl, ai_rs, ai_sm, Value.category, hk0, hk1, lits, litb, litm, litm2, List.getElem?_cons_zero, List.getElem?_cons_succ, or_n0, bit_r, fi0, fi1, fi2, fi3, nI_toInt, nI_add, pk_mul, nI_leI, nI_ltI, nI_eq, pk_sub, ib_nI, nI_clamp, va_up_self, va_up_ne, va_up_up, va_up_comm, pk_us, pk_un, upd_up, updL_up, pk_uLs, pk_uLn, b01_1, b01_0, b01_1s, b01_0s, or_b, pop_eq hG h1 h2 hold hm, c]
  · simp (disch := omega) [w94_0, x94_1_0, w94_4, x94_5_0, x94_8_55, x94_11_79, w94_14, rt94, aw_st, ai_cls, ai_len, ai_p, ai_sw, ai_m, ai_c, ai_at, ai_isI, ai_isJ, ai_isA, ai_ld, ai_1i, ai_2i, ai_2l, ai_cn, ai_j, ai_set, ai_set2, ai_nl, ai_rs, ai_sm, Value.category, hk0, hk1, lits, litb, litm, litm2, List.getElem?_cons_zero, List.getElem?_cons_succ, or_n0, bit_r, fi0, fi1, fi2, fi3, nI_toInt, nI_add, pk_mul, nI_leI, nI_ltI, nI_eq, pk_sub, ib_nI, nI_clamp, va_up_self, va_up_ne, va_up_up, va_up_comm, pk_us, pk_un, upd_up, updL_up, pk_uLs, pk_uLn, b01_1, b01_0, b01_1s, b01_0s, or_b, pop_eq hG h1 h2 hold hm, c]
end ACT
