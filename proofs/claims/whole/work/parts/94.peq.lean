/-! LIVES ALIKE, PLACE BY PLACE -/
section PEQS
variable {G : ai_G} {d sl : Nat} {Q : List Value → Nat → Nat → ai_M → Prop} {P S : Nat} {Y : mY} {X : mX} {l l' k : Nat → Nat → Int32}
def PEQ (l l' : Nat → Nat → Int32) : Prop := (∀ j p, 1 ≤ j → j < 8 → ¬ j = 5 → p < 8 → l j p = l' j p) ∧ (∀ i, i < 64 → l 5 i = l' 5 i) ∧ (∀ j, 9 ≤ j → j ≤ 13 → l j 0 = l' j 0)
theorem PEQ_cpy (l r : Nat → Nat → Int32) : PEQ (cpyL l r) r := by
  refine ⟨?_, ?_, ?_⟩
  · intro j p h1 h2 h3 hp
    unfold cpyL
    rw [if_neg (by omega), if_neg h3, if_pos h2, cpy_in _ _ _ hp]
  · intro p hp
    unfold cpyL
    rw [if_neg (by omega), if_pos rfl, cpy_in _ _ _ hp]
  · intro j h1 h2
    unfold cpyL
    rw [if_neg (by omega), if_neg (by omega), if_neg (by omega)]
theorem PEQ_leq (h : LEQ l l') : PEQ l l' := ⟨fun j p a b _ _ => by rw [h.1 j a (by omega)], fun i _ => by rw [h.1 5 (by omega) (by omega)], h.2⟩
theorem PEQ_row (h : PEQ l l') (i : Nat) (hi : ¬ i = 5) {f f' : Nat → Int32} (hf : ∀ p, p < 8 → f p = f' p) : PEQ (vf_upd l i f) (vf_upd l' i f') := by
  refine ⟨fun j p a b c e => ?_, fun q hq => ?_, fun j a b => ?_⟩
  · unfold vf_upd
    split
    · exact hf p e
    · exact h.1 j p a b c e
  · unfold vf_upd
    rw [if_neg (by omega), if_neg (by omega)]
    exact h.2.1 q hq
  · unfold vf_upd
    split
    · exact hf 0 (by omega)
    · exact h.2.2 j a b
theorem PEQ_5 (h : PEQ l l') {f f' : Nat → Int32} (hf : ∀ p, p < 64 → f p = f' p) : PEQ (vf_upd l 5 f) (vf_upd l' 5 f') := by
  refine ⟨fun j p a b c e => ?_, fun q hq => ?_, fun j a b => ?_⟩
  · unfold vf_upd
    rw [if_neg c, if_neg c]
    exact h.1 j p a b c e
  · unfold vf_upd
    rw [if_pos rfl, if_pos rfl]
    exact hf q hq
  · unfold vf_upd
    rw [if_neg (by omega), if_neg (by omega)]
    exact h.2.2 j a b
theorem upd_pc {f f' : Nat → Int32} {N a : Nat} {v v' : Int32} (h : ∀ p, p < N → f p = f' p) (hv : v = v') : ∀ p, p < N → upd f a v p = upd f' a v' p := by
  intro p hp
  subst hv
  simp only [upd]
  split
  · rfl
  · exact h p hp
theorem oweF_pc {f f' : Nat → Int32} {a b : Nat} {x : Int32} (ha : a < 8) (hb : b < 8) (h : ∀ p, p < 64 → f p = f' p) : ∀ p, p < 64 → oweF f a b x p = oweF f' a b x p := by
  have e := h (b * 8 + a) (by omega)
  have h1 := upd_pc (a := b * 8 + a) h (show f (b * 8 + a) - (if f (b * 8 + a) < x then f (b * 8 + a) else x) = f' (b * 8 + a) - (if f' (b * 8 + a) < x then f' (b * 8 + a) else x) by rw [e])
  unfold oweF
  refine upd_pc h1 ?_
  rw [h1 (a * 8 + b) (by omega), e]
theorem rsum_pc {f f' : Nat → Int32} : ∀ (r p : Nat) (acc : Int32), (∀ q, p ≤ q → q < p + r → f q = f' q) → rsum f p r acc = rsum f' p r acc := by
  intro r
  induction r with
  | zero => intro p acc h; rfl
  | succ r ih =>
    intro p acc h
    unfold rsum
    rw [h p (by omega) (by omega)]
    exact ih _ _ (fun q a b => h q (by omega) (by omega))
theorem whyI_pc (h : PEQ l l') {a b : Nat} {x : Int32} (ha : a < 8) (hb : b < 8) : whyI l k a b x = whyI l' k a b x := by
  unfold whyI
  rw [h.1 2 a (by omega) (by omega) (by omega) ha, h.1 1 b (by omega) (by omega) (by omega) hb, h.2.2 9 (by omega) (by omega)]
theorem hearL_pc (h : PEQ l l') {a b : Nat} {x : Int32} (ha : a < 8) (hb : b < 8) : PEQ (hearL l k a b x) (hearL l' k a b x) := by
  have r1 := fun p (hp : p < 8) => h.1 1 p (by omega) (by omega) (by omega) hp
  have r2 := fun p (hp : p < 8) => h.1 2 p (by omega) (by omega) (by omega) hp
  have r3 := fun p (hp : p < 8) => h.1 3 p (by omega) (by omega) (by omega) hp
  have r4 := fun p (hp : p < 8) => h.1 4 p (by omega) (by omega) (by omega) hp
  have e11 := h.2.2 11 (by omega) (by omega)
  have e13 := h.2.2 13 (by omega) (by omega)
  have hA : PEQ (hearA l a b x) (hearA l' a b x) := by
    unfold hearA
    exact PEQ_row (PEQ_row (PEQ_row (PEQ_row h 2 (by omega) (upd_pc r2 (by rw [r2 a ha]))) 3 (by omega) (upd_pc r3 (by rw [r3 a ha]))) 4 (by omega) (upd_pc r4 (by rw [r4 b hb]))) 13 (by omega) (fun _ _ => by rw [e13])
  unfold hearL
  refine PEQ_5 ?_ (oweF_pc hb ha h.2.1)
  unfold hearB
  split
  · exact PEQ_row hA 11 (by omega) (fun _ _ => by rw [e11])
  · exact PEQ_row hA 1 (by omega) (upd_pc r1 (by rw [r1 b hb]))
theorem dayS_pc (h : PEQ l l') {p : Nat} (hp : p < 8) : PEQ (dayS l k p) (dayS l' k p) := by
  have r1 := fun p (hp : p < 8) => h.1 1 p (by omega) (by omega) (by omega) hp
  have r2 := fun p (hp : p < 8) => h.1 2 p (by omega) (by omega) (by omega) hp
  have e9 := h.2.2 9 (by omega) (by omega)
  have e5 : rsum (l 5) (p * 8) 8 0 = rsum (l' 5) (p * 8) 8 0 := rsum_pc _ _ _ (fun q a b => h.2.1 q (by omega))
  have hA : PEQ (dayA l k p) (dayA l' k p) := by
    unfold dayA
    rw [e5]
    split
    · exact PEQ_row h 9 (by omega) (fun _ _ => by rw [e9])
    · exact h
  unfold dayS
  exact PEQ_row (PEQ_row hA 2 (by omega) (upd_pc r2 rfl)) 1 (by omega) (upd_pc r1 (by rw [r1 p hp]))
theorem dayR_pc : ∀ (r p : Nat) (l l' : Nat → Nat → Int32), p + r ≤ 8 → PEQ l l' → PEQ (dayR k p r l) (dayR k p r l') := by
  intro r
  induction r with
  | zero =>
    intro p l l' hp h
    unfold dayR
    exact PEQ_row h 10 (by omega) (fun _ _ => by rw [h.2.2 10 (by omega) (by omega)])
  | succ r ih =>
    intro p l l' hp h
    unfold dayR
    exact ih _ _ _ (by omega) (dayS_pc h (by omega))
def ZEQ (z z' : Zt) : Prop := PEQ z.1 z'.1 ∧ z.2.1 = z'.2.1 ∧ z.2.2 = z'.2.2
theorem talkS_pc (hP : P ≤ 8) (hP0 : 0 < P) {z z' : Zt} (h : ZEQ z z') : ZEQ (talkS k P z) (talkS k P z') := by
  obtain ⟨h1, h2, h3⟩ := h
  obtain ⟨a, ha, ea⟩ := draw_nat (x := turnI z'.2.1) hP0 (show P < 2 ^ 31 by omega)
  obtain ⟨b, hb, eb⟩ := draw_nat (x := turnI (turnI z'.2.1)) hP0 (show P < 2 ^ 31 by omega)
  have ia : iN (nI a) = a := iN_nI (by omega)
  have ib : iN (nI b) = b := iN_nI (by omega)
  unfold talkS
  rw [h2, h3, ea, eb, ia, ib, whyI_pc h1 (show a < 8 by omega) (show b < 8 by omega)]
  split
  · exact ⟨hearL_pc h1 (by omega) (by omega), rfl, rfl⟩
  · exact ⟨h1, rfl, rfl⟩
theorem talksR_pc (hP : P ≤ 8) (hP0 : 0 < P) : ∀ (r : Nat) (z z' : Zt), ZEQ z z' → ZEQ (talksR k P r z) (talksR k P r z') := by
  intro r
  induction r with
  | zero => intro z z' h; exact h
  | succ r ih => intro z z' h; exact ih _ _ (talkS_pc hP hP0 h)
theorem drawsR_pc (hP : P ≤ 8) (hP0 : 0 < P) (T : Nat) : ∀ (r : Nat) (z z' : Zt), ZEQ z z' → ZEQ (drawsR k P T r z) (drawsR k P T r z') := by
  intro r
  induction r with
  | zero => intro z z' h; exact h
  | succ r ih =>
    intro z z' h
    have := talksR_pc (k := k) hP hP0 T z z' h
    exact ih _ _ ⟨dayR_pc _ _ _ _ (by omega) this.1, this.2.1, this.2.2⟩
theorem bit01 {w : Int32} {p : Nat} (hp : p < 32) : bit w (nI p) = b01 (bit w (nI p) = 1) := by
  have e : bit w (nI p) = b01 (bt w p = true) := bit_val hp
  have h : (bit w (nI p) = 1) = (bt w p = true) := bit_bt hp
  simp only [h]
  exact e
theorem cpyM70 (hG : G.1 = false) {l : Nat → Nat → Int32} : aw ET G (d + 1) 53 0 [some (.ref 70), some (.ref 61)] [] 231 sl (mem (plv X 70 l) Y) Q = Q [] 231 sl (mem (plv X 70 (cpyL l (lv X 61))) Y) := by
  have e61 : lv (plv X 70 l) 61 = lv X 61 := lv_plv_ne (by omega)
  rw [lcopyM hG (by simp [isLf]) (by simp [isLf]) (by omega), plv_plv, e61]
  rw [plv_cg (l' := cpyL l (lv X 61))]
  refine ⟨fun j a b => ?_, fun j a b => ?_⟩
  · unfold cpyL
    rw [lv_plv_row (o := 70) (j := 8) (by omega) (by omega), lv_plv_row (o := 70) (j := 5) (by omega) (by omega)]
    split
    · rfl
    · split
      · rfl
      · split
        · rw [lv_plv_row (by omega) (by omega)]
        · rfl
  · unfold cpyL
    rw [if_neg (by omega), if_neg (by omega), if_neg (by omega), if_neg (by omega), if_neg (by omega), if_neg (by omega)]
set_option maxHeartbeats 8000000 in
theorem todds_loop {N p : Nat} {x : Int32} (hG : G.1 = false) (hN : N ≤ 1000) (hP : P ≤ 8) (hp : p < P) (hk : X 47 7 = nI P) : ∀ (r i : Nat) (l : Nat → Nat → Int32) (acc : Int32), i + r = N → (∀ l', Q [.int (oddsR (lv X 61) (cv X 47) P p x r i acc)] 231 sl (mem (plv X 70 l') Y)) → aw ET G (d + 5) 139 48 [some (.ref 0), some (.int (nI p)), some (.int (nI N)), some (.int x), some (.int acc), some (.int (nI i))] [] 231 sl (mem (plv X 70 l) Y) Q := by
  intro r
  induction r with
  | zero =>
    intro i l acc hi hQ
    have := hQ l
    simp only [oddsR] at this
    simp (disch := omega) [w139_48, w139_50, w139_51, w139_105, w139_107, rt139, aw_st, ai_cls, ai_len, ai_p, ai_sw, ai_m, ai_c, ai_at, ai_isI, ai_isJ, ai_isA, ai_ld, ai_1i, ai_2i, ai_2l, ai_cn, ai_j, ai_set, ai_set2, ai_nl, ai_rs, ai_sm, Value.category, hk0, hk1, lits, litb, litm, litm2, List.getElem?_cons_zero, List.getElem?_cons_succ, or_n0, bit_r, fi0, fi1, fi2, fi3, nI_toInt, nI_add, pk_mul, nI_leI, nI_ltI, nI_eq, pk_sub, ib_nI, nI_clamp, va_up_self, va_up_ne, va_up_up, va_up_comm, pk_us, pk_un, upd_up, updL_up, pk_uLs, pk_uLn, b01_1, b01_0, b01_1s, b01_0s, or_b, show N ≤ i by omega]
    exact this
  | succ r ih =>
    intro i l acc hi hQ
    have hd : ∀ (l : Nat → Nat → Int32) (Q : List Value → Nat → Nat → ai_M → Prop), aw ET G (d + 4) 136 0 [some (.ref 70), some (.int (nI 30)), some (.int (nI 4)), some (.int (x + nI i)), none, none, none, none, none, none, none] [] 231 sl (mem (plv X 70 l) Y) Q = Q [.int (drawsR (cv X 47) P 4 30 (lv (plv X 70 l) 70, x + nI i, 0)).2.2] 231 sl (mem (plv X 70 (drawsR (cv X 47) P 4 30 (lv (plv X 70 l) 70, x + nI i, 0)).1) Y) := fun l Q => by
      rw [draws_70 (P := P) (by omega) (by omega) hP (by omega) (by rw [plv_out (by omega)]; exact hk), cv_plv (by omega), plv_plv]
    have hz : ZEQ (drawsR (cv X 47) P 4 30 (lv (plv X 70 (cpyL l (lv X 61))) 70, x + nI i, 0)) (drawsR (cv X 47) P 4 30 (lv X 61, x + nI i, 0)) := by
      refine drawsR_pc hP (by omega) 4 30 _ _ ⟨?_, rfl, rfl⟩
      have h1 : PEQ (lv (plv X 70 (cpyL l (lv X 61))) 70) (cpyL l (lv X 61)) := PEQ_leq (LEQ_plv _)
      have h2 := PEQ_cpy l (lv X 61)
      exact ⟨fun j p a b c e => (h1.1 j p a b c e).trans (h2.1 j p a b c e), fun i hi => (h1.2.1 i hi).trans (h2.2.1 i hi), fun j a b => (h1.2.2 j a b).trans (h2.2.2 j a b)⟩
    have h9 : ∀ l, plv X 70 l 70 9 = l 9 0 := fun l => lv_plv_num (X := X) (l := l) (o := 70) (j := 9) (by omega) (by omega)
    have he9 : (drawsR (cv X 47) P 4 30 (lv (plv X 70 (cpyL l (lv X 61))) 70, x + nI i, nI 0)).1 9 0 = (drawsR (cv X 47) P 4 30 (lv X 61, x + nI i, nI 0)).1 9 0 := hz.1.2.2 9 (by omega) (by omega)
    have hb : ∀ (w : Int32), w >>> (nI p &&& 31) &&& nI 1 = b01 (bit w (nI p) = 1) := by
      intro w
      rw [bit_r]; exact bit01 (by omega)
    have := ih (i + 1) (drawsR (cv X 47) P 4 30 (lv (plv X 70 (cpyL l (lv X 61))) 70, x + nI i, 0)).1 (acc + b01 (bit ((drawsR (cv X 47) P 4 30 (lv X 61, x + nI i, 0)).1 9 0) (nI p) = 1)) (by omega) (fun l' => by have := hQ l'; simp only [oddsR] at this; exact this)
    rw [w139_48]
    simp (disch := omega) [w139_0, w139_1, w139_2, w139_5, w139_6, w139_8, w139_11, x139_12_0, x139_15_55, w139_18, x139_19_47, w139_22, w139_25, x139_26_0, x139_29_55, w139_32, x139_34_61, x139_34_70, w139_37, w139_40, w139_41, w139_42, w139_43, w139_45, w139_46, w139_50, w139_51, w139_54, x139_55_0, w139_58, x139_59_0, x139_62_55, x139_65_61, x139_65_70, w139_68, x139_69_0, w139_72, w139_74, w139_75, w139_76, w139_78, x139_79_61, x139_79_70, w139_82, w139_83, w139_85, x139_86_0, x139_89_61, x139_89_70, w139_92, w139_93, w139_94, w139_95, w139_96, w139_97, w139_99, w139_102, w139_105, w139_107, rt139, aw_st, ai_cls, ai_len, ai_p, ai_sw, ai_m, ai_c, ai_at, ai_isI, ai_isJ, ai_isA, ai_ld, ai_1i, ai_2i, ai_2l, ai_cn, ai_j, ai_set, ai_set2, ai_nl, ai_rs, ai_sm, Value.category, hk0, hk1, lits, litb, litm, litm2, List.getElem?_cons_zero, List.getElem?_cons_succ, or_n0, fi0, fi1, fi2, fi3, nI_toInt, nI_add, pk_mul, nI_leI, nI_ltI, nI_eq, pk_sub, ib_nI, nI_clamp, va_up_self, va_up_ne, va_up_up, va_up_comm, pk_us, pk_un, upd_up, updL_up, pk_uLs, pk_uLn, b01_1, b01_0, b01_1s, b01_0s, or_b, hd, cpyM70 hG, h9, hb, he9, show ¬ N ≤ i by omega]
    simp only [lits] at this ⊢
    exact this
set_option maxHeartbeats 4000000 in
theorem todds_wp {x y z : Int32} (hG : G.1 = false) (hP : P ≤ 8) (hk : X 47 7 = nI P) (hQ : ∀ l', Q [.int (oddsV P (lv X 61) (cv X 47) x y z)] 231 sl (mem (plv X 70 l') Y)) : aw ET G (d + 5) 139 0 [some (.ref 0), some (.int x), some (.int y), some (.int z), none, none] [] 231 sl (mem X Y) Q := by
  have hp : ∀ (x : Int32) (Q : List Value → Nat → Nat → ai_M → Prop), aw ET G (d + 4) 59 0 [some (.ref 47), some (.int x)] [] 231 sl (mem X Y) Q = Q [.int (b01 (pI P x = true))] 231 sl (mem X Y) := fun x Q => hasP_47 hP hk
  have hc : ∀ (x : Int32) (Q : List Value → Nat → Nat → ai_M → Prop), aw ET G (d + 4) 84 0 [some (.ref 61), some (.int x)] [] 231 sl (mem X Y) Q = Q [.int (b01 (¬ 9999 < lv X 61 10 0 + x))] 231 sl (mem X Y) := fun x Q => canM (Or.inl rfl)
  have hs := hQ (lv X 70)
  rw [plv_self] at hs
  unfold oddsV okO at hQ hs
  cases hi : inI (nI 1) (nI 50) y
  · have hi2 : inI 1 50 y = false := hi
    rw [hi2] at hs
    simp only [Bool.false_and, Bool.and_false, Bool.false_eq_true, if_false] at hs
    unfold inI at hi
    rw [decide_eq_false_iff_not] at hi
    rcases lt_or y (nI 1) with ⟨g1, g2⟩ | ⟨g1, g2⟩
    · simp (disch := omega) [w139_0, w139_1, w139_2, w139_5, w139_6, w139_8, w139_11, x139_12_0, x139_15_55, w139_18, x139_19_47, w139_22, w139_25, x139_26_0, x139_29_55, w139_32, x139_34_61, x139_34_70, w139_37, w139_40, w139_41, w139_42, w139_43, w139_45, w139_46, w139_48, w139_50, w139_51, w139_54, x139_55_0, w139_58, x139_59_0, x139_62_55, x139_65_61, x139_65_70, w139_68, x139_69_0, w139_72, w139_74, w139_75, w139_76, w139_78, x139_79_61, x139_79_70, w139_82, w139_83, w139_85, x139_86_0, x139_89_61, x139_89_70, w139_92, w139_93, w139_94, w139_95, w139_96, w139_97, w139_99, w139_102, w139_105, w139_107, rt139, aw_st, ai_cls, ai_len, ai_p, ai_sw, ai_m, ai_c, ai_at, ai_isI, ai_isJ, ai_isA, ai_ld, ai_1i, ai_2i, ai_2l, ai_cn, ai_j, ai_set, ai_set2, ai_nl, ai_rs, ai_sm, Value.category, hk0, hk1, lits, litb, litm, litm2, List.getElem?_cons_zero, List.getElem?_cons_succ, or_n0, bit_r, fi0, fi1, fi2, fi3, nI_toInt, nI_add, pk_mul, nI_leI, nI_ltI, nI_eq, pk_sub, ib_nI, nI_clamp, va_up_self, va_up_ne, va_up_up, va_up_comm, pk_us, pk_un, upd_up, updL_up, pk_uLs, pk_uLn, b01_1, b01_0, b01_1s, b01_0s, or_b, g1, g2]; exact hs
    · rcases lt_or (nI 50) y with ⟨f1, f2⟩ | ⟨f1, f2⟩
      · simp (disch := omega) [w139_0, w139_1, w139_2, w139_5, w139_6, w139_8, w139_11, x139_12_0, x139_15_55, w139_18, x139_19_47, w139_22, w139_25, x139_26_0, x139_29_55, w139_32, x139_34_61, x139_34_70, w139_37, w139_40, w139_41, w139_42, w139_43, w139_45, w139_46, w139_48, w139_50, w139_51, w139_54, x139_55_0, w139_58, x139_59_0, x139_62_55, x139_65_61, x139_65_70, w139_68, x139_69_0, w139_72, w139_74, w139_75, w139_76, w139_78, x139_79_61, x139_79_70, w139_82, w139_83, w139_85, x139_86_0, x139_89_61, x139_89_70, w139_92, w139_93, w139_94, w139_95, w139_96, w139_97, w139_99, w139_102, w139_105, w139_107, rt139, aw_st, ai_cls, ai_len, ai_p, ai_sw, ai_m, ai_c, ai_at, ai_isI, ai_isJ, ai_isA, ai_ld, ai_1i, ai_2i, ai_2l, ai_cn, ai_j, ai_set, ai_set2, ai_nl, ai_rs, ai_sm, Value.category, hk0, hk1, lits, litb, litm, litm2, List.getElem?_cons_zero, List.getElem?_cons_succ, or_n0, bit_r, fi0, fi1, fi2, fi3, nI_toInt, nI_add, pk_mul, nI_leI, nI_ltI, nI_eq, pk_sub, ib_nI, nI_clamp, va_up_self, va_up_ne, va_up_up, va_up_comm, pk_us, pk_un, upd_up, updL_up, pk_uLs, pk_uLn, b01_1, b01_0, b01_1s, b01_0s, or_b, g1, g2, f1, f2]; exact hs
      · exact absurd ⟨g2, f2⟩ hi
  · have hi2 : inI 1 50 y = true := hi
    obtain ⟨N, n1, n2, rfl⟩ := inI_nat (by omega) (by omega) hi
    cases hx : pI P x
    · rw [hx] at hs
      simp only [Bool.false_and, Bool.false_eq_true, if_false] at hs
      simp (disch := omega) [w139_0, w139_1, w139_2, w139_5, w139_6, w139_8, w139_11, x139_12_0, x139_15_55, w139_18, x139_19_47, w139_22, w139_25, x139_26_0, x139_29_55, w139_32, x139_34_61, x139_34_70, w139_37, w139_40, w139_41, w139_42, w139_43, w139_45, w139_46, w139_48, w139_50, w139_51, w139_54, x139_55_0, w139_58, x139_59_0, x139_62_55, x139_65_61, x139_65_70, w139_68, x139_69_0, w139_72, w139_74, w139_75, w139_76, w139_78, x139_79_61, x139_79_70, w139_82, w139_83, w139_85, x139_86_0, x139_89_61, x139_89_70, w139_92, w139_93, w139_94, w139_95, w139_96, w139_97, w139_99, w139_102, w139_105, w139_107, rt139, aw_st, ai_cls, ai_len, ai_p, ai_sw, ai_m, ai_c, ai_at, ai_isI, ai_isJ, ai_isA, ai_ld, ai_1i, ai_2i, ai_2l, ai_cn, ai_j, ai_set, ai_set2, ai_nl, ai_rs, ai_sm, Value.category, hk0, hk1, lits, litb, litm, litm2, List.getElem?_cons_zero, List.getElem?_cons_succ, or_n0, bit_r, fi0, fi1, fi2, fi3, nI_toInt, nI_add, pk_mul, nI_leI, nI_ltI, nI_eq, pk_sub, ib_nI, nI_clamp, va_up_self, va_up_ne, va_up_up, va_up_comm, pk_us, pk_un, upd_up, updL_up, pk_uLs, pk_uLn, b01_1, b01_0, b01_1s, b01_0s, or_b, hp, hx, show ¬ N < 1 by omega, show ¬ 50 < N by omega]; exact hs
    · by_cases hz : (9999 : Int32) < lv X 61 10 0 + 30
      · rw [hx, hi2] at hs
        simp only [hz, not_true, decide_false, Bool.and_false, Bool.false_eq_true, if_false] at hs
        have hz' : nI 9999 < lv X 61 10 0 + nI 30 := hz
        simp (disch := omega) [w139_0, w139_1, w139_2, w139_5, w139_6, w139_8, w139_11, x139_12_0, x139_15_55, w139_18, x139_19_47, w139_22, w139_25, x139_26_0, x139_29_55, w139_32, x139_34_61, x139_34_70, w139_37, w139_40, w139_41, w139_42, w139_43, w139_45, w139_46, w139_48, w139_50, w139_51, w139_54, x139_55_0, w139_58, x139_59_0, x139_62_55, x139_65_61, x139_65_70, w139_68, x139_69_0, w139_72, w139_74, w139_75, w139_76, w139_78, x139_79_61, x139_79_70, w139_82, w139_83, w139_85, x139_86_0, x139_89_61, x139_89_70, w139_92, w139_93, w139_94, w139_95, w139_96, w139_97, w139_99, w139_102, w139_105, w139_107, rt139, aw_st, ai_cls, ai_len, ai_p, ai_sw, ai_m, ai_c, ai_at, ai_isI, ai_isJ, ai_isA, ai_ld, ai_1i, ai_2i, ai_2l, ai_cn, ai_j, ai_set, ai_set2, ai_nl, ai_rs, ai_sm, Value.category, hk0, hk1, lits, litb, litm, litm2, List.getElem?_cons_zero, List.getElem?_cons_succ, or_n0, bit_r, fi0, fi1, fi2, fi3, nI_toInt, nI_add, pk_mul, nI_leI, nI_ltI, nI_eq, pk_sub, ib_nI, nI_clamp, va_up_self, va_up_ne, va_up_up, va_up_comm, pk_us, pk_un, upd_up, updL_up, pk_uLs, pk_uLn, b01_1, b01_0, b01_1s, b01_0s, or_b, hp, hc, hx, hz', show ¬ N < 1 by omega, show ¬ 50 < N by omega]; exact hs
      · obtain ⟨p, hp1, rfl⟩ := (pI_nat (by omega)).mp hx
        rw [hx, hi2] at hQ
        simp only [hz, not_false_eq_true, decide_true, Bool.and_true, if_true] at hQ
        rw [iN_nI (by omega), iN_nI (by omega)] at hQ
        have hz' : ¬ nI 9999 < lv X 61 10 0 + nI 30 := hz
        have hl := todds_loop (G := G) (d := d) (sl := sl) (Q := Q) (Y := Y) (X := X) (x := z) hG (show N ≤ 1000 by omega) hP hp1 hk N 0 (lv X 70) 0 (by omega) hQ
        rw [plv_self] at hl
        simp (disch := omega) [w139_0, w139_1, w139_2, w139_5, w139_6, w139_8, w139_11, x139_12_0, x139_15_55, w139_18, x139_19_47, w139_22, w139_25, x139_26_0, x139_29_55, w139_32, x139_34_61, x139_34_70, w139_37, w139_40, w139_41, w139_42, w139_43, w139_45, w139_46, w139_50, w139_51, w139_54, x139_55_0, w139_58, x139_59_0, x139_62_55, x139_65_61, x139_65_70, w139_68, x139_69_0, w139_72, w139_74, w139_75, w139_76, w139_78, x139_79_61, x139_79_70, w139_82, w139_83, w139_85, x139_86_0, x139_89_61, x139_89_70, w139_92, w139_93, w139_94, w139_95, w139_96, w139_97, w139_99, w139_102, w139_105, w139_107, rt139, aw_st, ai_cls, ai_len, ai_p, ai_sw, ai_m, ai_c, ai_at, ai_isI, ai_isJ, ai_isA, ai_ld, ai_1i, ai_2i, ai_2l, ai_cn, ai_j, ai_set, ai_set2, ai_nl, ai_rs, ai_sm, Value.category, hk0, hk1, lits, litb, litm, litm2, List.getElem?_cons_zero, List.getElem?_cons_succ, or_n0, bit_r, fi0, fi1, fi2, fi3, nI_toInt, nI_add, pk_mul, nI_leI, nI_ltI, nI_eq, pk_sub, ib_nI, nI_clamp, va_up_self, va_up_ne, va_up_up, va_up_comm, pk_us, pk_un, upd_up, updL_up, pk_uLs, pk_uLn, b01_1, b01_0, b01_1s, b01_0s, or_b, hp, hc, hx, hz', show ¬ N < 1 by omega, show ¬ 50 < N by omega]
        exact hl
end PEQS
