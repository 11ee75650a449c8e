/-! LIFE, II: what its methods come to, that change nothing -/
section LIG
variable {G : ai_G} {d n sl : Nat} {M : ai_M} {Q : List Value → Nat → Nat → ai_M → Prop}
/-- why one can't hear another one -/
def whyI (l k : Nat → Nat → Int32) (a b : Nat) (x : Int32) : Int32 := if a = b then 1 else if l 2 a < x then 2 else if l 1 b < x then 3 else if bit (l 9 0) (nI b) = 1 ∧ ¬ bit (k 9 0) (nI b) = 1 then 4 else 0
theorem nI_inj {a b : Nat} (ha : a < 8) (hb : b < 8) : (nI a = nI b) = (a = b) := propext (nI_eq (by omega) (by omega))
set_option maxHeartbeats 4000000 in
theorem whyNotHear_eq {o c : Nat} {l k : Nat → Nat → Int32} {nm : Nat → Nat → Int64} (h : lf M n o c l) (hc : ch M n c k nm) {a b : Nat} (ha : a < 8) (hb : b < 8) {x : Int32} : aw ET G (d + 1) 68 0 [some (.ref o), some (.int (nI a)), some (.int (nI b)), some (.int x)] [] n sl M Q = Q [.int (whyI l k a b x)] n sl M := by
  have hf : ∀ Q : List Value → Nat → Nat → ai_M → Prop, aw ET G d 69 0 [some (.ref c), some (.int (nI b))] [] n sl M Q = Q [.int (b01 (bit (k 9 0) (nI b) = 1))] n sl M := fun Q => isFree_eq hc
  obtain ⟨ho, hM, h1, h2, -⟩ := h
  obtain ⟨co, cM, -⟩ := hc
  have ha1 := ib_nI (k := a) (N := 8) ha (by omega)
  have ha2 : (nI a).toNatClampNeg = a := nI_clamp (by omega)
  have hb1 := ib_nI (k := b) (N := 8) hb (by omega)
  have hb2 : (nI b).toNatClampNeg = b := nI_clamp (by omega)
  have hab := nI_inj ha hb
  simp [w68_0, w68_1, w68_2, w68_5, w68_6, w68_7, w68_8, w68_11, w68_12, w68_13, w68_14, w68_17, w68_18, w68_19, w68_20, w68_23, w68_24, w68_25, w68_26, w68_29, w68_30, w68_31, w68_32, w68_35, w68_36, w68_37, w68_38, w68_39, w68_40, w68_43, w68_44, w68_47, w68_48, w68_51, w68_54, w68_55, w68_58, w68_59, ow68, rt68, in68, pl3_15, nf3, pl3_9, pl3_36, pl3_52, pl3_95, ow69, mx69, aw_st, ai_cls, ai_len, ai_p, ai_sw, ai_m, ai_c, aw_go, ai_at, ai_isI, ai_isJ, ai_isA, ai_ld, ai_1i, ai_2i, ai_2l, ai_cn, ai_j, ai_set, ai_set2, ai_nl, ai_rs, ai_this, ai_ar, ai_en, ai_sm, Value.category, hk0, hk1, ai_ft, fi0, fi1, fi2, fi3, hM, cM, h1, h2, show o < n by omega, show o + 1 < n by omega, show o + 2 < n by omega, show c < n by omega, ha1, ha2, hb1, hb2, hab, hf, whyI]
  by_cases e1 : a = b
  · simp [e1]
  · rcases lt_or (l 2 a) x with ⟨g1, g2⟩ | ⟨g1, g2⟩
    · simp [e1, g1, g2]
    · rcases lt_or (l 1 b) x with ⟨g3, g4⟩ | ⟨g3, g4⟩
      · simp [e1, g1, g2, g3, g4]
      · by_cases e2 : bit (l 9 0) (nI b) = 1
        · have e2' : l 9 0 >>> (nI b &&& 31) &&& 1 = 1 := e2
          by_cases e3 : bit (k 9 0) (nI b) = 1 <;> simp [e1, g1, g2, g3, g4, e2, e2', e3, b01]
        · have e2' : ¬ l 9 0 >>> (nI b &&& 31) &&& 1 = 1 := e2
          simp [e1, g1, g2, g3, g4, e2, e2']
/-- why one can't tell another one a story -/
def tellI (l : Nat → Nat → Int32) (a b s : Nat) : Int32 := if a = b then 1 else if ¬ bit (l 7 s) (nI a) = 1 then 2 else if bit (l 7 s) (nI b) = 1 then 3 else 0
set_option maxHeartbeats 4000000 in
theorem whyNotTell_eq {o c : Nat} {l : Nat → Nat → Int32} (h : lf M n o c l) {a b s : Nat} (ha : a < 8) (hb : b < 8) (hs : s < 8) : aw ET G (d + 1) 78 0 [some (.ref o), some (.int (nI a)), some (.int (nI b)), some (.int (nI s))] [] n sl M Q = Q [.int (tellI l a b s)] n sl M := by
  have hf : ∀ (y : Nat) (Q : List Value → Nat → Nat → ai_M → Prop), aw ET G d 79 0 [some (.ref o), some (.int (nI y)), some (.int (nI s))] [] n sl M Q = Q [.int (b01 (bit (l 7 s) (nI y) = 1))] n sl M := fun y Q => knowsStory_eq h hs
  obtain ⟨ho, hM, -⟩ := h
  have hab := nI_inj ha hb
  simp [w78_0, w78_1, w78_2, w78_5, w78_6, w78_7, w78_8, w78_9, w78_10, w78_13, w78_16, w78_17, w78_18, w78_19, w78_20, w78_21, w78_24, w78_27, w78_28, w78_31, w78_32, ow78, rt78, in78, pl3_109, ow79, mx79, aw_st, ai_cls, ai_len, ai_p, ai_sw, ai_m, ai_c, aw_go, ai_at, ai_isI, ai_isJ, ai_isA, ai_ld, ai_1i, ai_2i, ai_2l, ai_cn, ai_j, ai_set, ai_set2, ai_nl, ai_rs, ai_this, ai_ar, ai_en, ai_sm, Value.category, hk0, hk1, ai_ft, fi0, fi1, fi2, fi3, hM, show o < n by omega, hab, hf, tellI]
  by_cases e1 : a = b
  · simp [e1]
  · by_cases e2 : bit (l 7 s) (nI a) = 1 <;> by_cases e3 : bit (l 7 s) (nI b) = 1 <;> simp [e1, e2, e3, b01]
set_option maxHeartbeats 4000000 in
theorem worthNow_eq {o c : Nat} {l k : Nat → Nat → Int32} {nm : Nat → Nat → Int64} (h : lf M n o c l) (hc : ch M n c k nm) {s : Nat} (hs : s < 8) : aw ET G (d + 2) 81 0 [some (.ref o), some (.int (nI s))] [] n sl M Q = Q [.int (worI k s (l 6 s))] n sl M := by
  have hf : ∀ (y : Int32) (Q : List Value → Nat → Nat → ai_M → Prop), aw ET G (d + 1) 82 0 [some (.ref o), some (.int (nI s)), some (.int y)] [] n sl M Q = Q [.int (worI k s y)] n sl M := fun y Q => worthAt_eq h hc hs
  obtain ⟨ho, hM, h1, h2, h3, h4, h5, h6, -⟩ := h
  have hib := ib_nI (k := s) (N := 8) hs (by omega)
  have hcl : (nI s).toNatClampNeg = s := nI_clamp (by omega)
  simp [w81_0, w81_1, w81_2, w81_3, w81_6, w81_7, w81_8, w81_11, ow81, rt81, in81, pl3_27, nf3, pl3_70, ow82, mx82, aw_st, ai_cls, ai_len, ai_p, ai_sw, ai_m, ai_c, aw_go, ai_at, ai_isI, ai_isJ, ai_isA, ai_ld, ai_1i, ai_2i, ai_2l, ai_cn, ai_j, ai_set, ai_set2, ai_nl, ai_rs, ai_this, ai_ar, ai_en, ai_sm, Value.category, hk0, hk1, ai_ft, fi0, fi1, fi2, fi3, hM, h6, show o < n by omega, show o + 6 < n by omega, hib, hcl, hf]
/-- a sum over what is owed to one -/
def csum (f : Nat → Int32) : Nat → Nat → Int32 → Int32
  | _, 0, acc => acc
  | j, k + 1, acc => csum f (j + 8) k (acc + f j)
set_option maxHeartbeats 4000000 in
theorem credit_loop {o c : Nat} {l : Nat → Nat → Int32} (h : lf M n o c l) {p : Nat} (hp : p < 8) : ∀ (k q : Nat) (acc : Int32), q + k = 8 → aw ET G (d + 1) 142 4 [some (.ref o), some (.int (nI p)), some (.int acc), some (.int (nI q))] [] n sl M Q = Q [.int (csum (l 5) (q * 8 + p) k acc)] n sl M := by
  intro k
  induction k with
  | zero =>
    intro q acc hq
    have : q = 8 := by omega
    subst this
    simp [w142_0, w142_1, w142_2, w142_3, w142_4, w142_5, w142_7, w142_10, w142_11, w142_12, w142_13, w142_14, w142_17, w142_18, w142_19, w142_22, w142_25, w142_26, ow142, rt142, in142, pl3_62, ow43, mx43, aw_st, ai_cls, ai_len, ai_p, ai_sw, ai_m, ai_c, aw_go, ai_at, ai_isI, ai_isJ, ai_isA, ai_ld, ai_1i, ai_2i, ai_2l, ai_cn, ai_j, ai_set, ai_set2, ai_nl, ai_rs, ai_this, ai_ar, ai_en, ai_sm, Value.category, hk0, hk1, ai_ft, fi0, fi1, fi2, fi3, csum, show nI 8 = 8 from rfl]
  | succ k ih =>
    intro q acc hq
    have hc : ¬ (8 : Int32) ≤ nI q := by rw [le_nI8 (by omega)]; omega
    have hn : ∀ Q : List Value → Nat → Nat → ai_M → Prop, aw ET G d 43 0 [some (.ref o), some (.int (nI q)), some (.int (nI p))] [] n sl M Q = Q [.int (l 5 (q * 8 + p))] n sl M := fun Q => note_eq h (by omega) hp
    obtain ⟨ho, hM, -⟩ := h
    rw [w142_4]
    simp [w142_0, w142_1, w142_2, w142_3, w142_5, w142_7, w142_10, w142_11, w142_12, w142_13, w142_14, w142_17, w142_18, w142_19, w142_22, w142_25, w142_26, ow142, rt142, in142, pl3_62, ow43, mx43, aw_st, ai_cls, ai_len, ai_p, ai_sw, ai_m, ai_c, aw_go, ai_at, ai_isI, ai_isJ, ai_isA, ai_ld, ai_1i, ai_2i, ai_2l, ai_cn, ai_j, ai_set, ai_set2, ai_nl, ai_rs, ai_this, ai_ar, ai_en, ai_sm, Value.category, hk0, hk1, ai_ft, fi0, fi1, fi2, fi3, hM, show o < n by omega, hc, hn, nI_1, ih (q + 1) (acc + l 5 (q * 8 + p)) (by omega), csum]
    rw [show (q + 1) * 8 + p = q * 8 + p + 8 by omega]
theorem credit_eq {o c : Nat} {l : Nat → Nat → Int32} (h : lf M n o c l) {p : Nat} (hp : p < 8) : aw ET G (d + 1) 142 0 [some (.ref o), some (.int (nI p)), none, none] [] n sl M Q = Q [.int (csum (l 5) p 8 0)] n sl M := by
  have := credit_loop (G := G) (d := d) (sl := sl) (Q := Q) h hp 8 0 0 rfl
  simp [w142_0, w142_1, w142_2, w142_3, w142_5, w142_7, w142_10, w142_11, w142_12, w142_13, w142_14, w142_17, w142_18, w142_19, w142_22, w142_25, w142_26, ow142, rt142, in142, pl3_62, ow43, mx43, aw_st, ai_cls, ai_len, ai_p, ai_sw, ai_m, ai_c, aw_go, ai_at, ai_isI, ai_isJ, ai_isA, ai_ld, ai_1i, ai_2i, ai_2l, ai_cn, ai_j, ai_set, ai_set2, ai_nl, ai_rs, ai_this, ai_ar, ai_en, ai_sm, Value.category, hk0, hk1, ai_ft, fi0, fi1, fi2, fi3] at this ⊢
  exact this
set_option maxHeartbeats 4000000 in
theorem owesTooMuch_eq {o c : Nat} {l k : Nat → Nat → Int32} {nm : Nat → Nat → Int64} (h : lf M n o c l) (hc : ch M n c k nm) {p : Nat} (hp : p < 8) : aw ET G (d + 2) 87 0 [some (.ref o), some (.int (nI p))] [] n sl M Q = Q [.int (b01 (k 12 0 * k 1 p < rsum (l 5) (p * 8) 8 0))] n sl M := by
  have hf : ∀ Q : List Value → Nat → Nat → ai_M → Prop, aw ET G (d + 1) 63 0 [some (.ref o), some (.int (nI p)), none, none] [] n sl M Q = Q [.int (rsum (l 5) (p * 8) 8 0)] n sl M := fun Q => debt_eq h hp
  obtain ⟨ho, hM, -⟩ := h
  obtain ⟨co, cM, c1, c2, -⟩ := hc
  have hib := ib_nI (k := p) (N := 8) hp (by omega)
  have hcl : (nI p).toNatClampNeg = p := nI_clamp (by omega)
  simp [w87_0, w87_1, w87_2, w87_5, w87_6, w87_9, w87_12, w87_13, w87_16, w87_19, w87_20, w87_21, w87_22, w87_25, w87_26, w87_29, w87_30, ow87, rt87, in87, pl3_66, ow63, mx63, pl3_52, nf3, pl3_86, nf1, pl3_89, aw_st, ai_cls, ai_len, ai_p, ai_sw, ai_m, ai_c, aw_go, ai_at, ai_isI, ai_isJ, ai_isA, ai_ld, ai_1i, ai_2i, ai_2l, ai_cn, ai_j, ai_set, ai_set2, ai_nl, ai_rs, ai_this, ai_ar, ai_en, ai_sm, Value.category, hk0, hk1, ai_ft, fi0, fi1, fi2, fi3, hM, cM, c2, show o < n by omega, show c < n by omega, show c + 2 < n by omega, hib, hcl, hf]
  rcases lt_or (k 12 0 * k 1 p) (rsum (l 5) (p * 8) 8 0) with ⟨g1, g2⟩ | ⟨g1, g2⟩ <;> simp [g1, g2, b01]
end LIG
