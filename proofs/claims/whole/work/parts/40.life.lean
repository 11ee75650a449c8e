/-! LIFE: what its methods come to -/
section LIF
variable {G : ai_G} {d n sl : Nat} {M : ai_M} {Q : List Value → Nat → Nat → ai_M → Prop}
/-- a Life at o, of the charter at c: its rows l 1 .. l 8 and its numbers l 9 .. l 13 (each at 0), by the numbers of the fields: 1 needs, 2 left, 3 heard, 4 beenHeard, 5 notes, 6 times, 7 knowers, 8 row, 9 ruined, 10 day, 11 counterfeit, 12 struckOut, 13 hearings -/
def lf (M : ai_M) (n o c : Nat) (l : Nat → Nat → Int32) : Prop := o + 8 < n ∧ M o = .inr (3, [.ref c, .ref (o + 1), .ref (o + 2), .ref (o + 3), .ref (o + 4), .ref (o + 5), .ref (o + 6), .ref (o + 7), .ref (o + 8), .int (l 9 0), .int (l 10 0), .int (l 11 0), .int (l 12 0), .int (l 13 0)]) ∧ M (o + 1) = .inl (0, 8, .inl (l 1)) ∧ M (o + 2) = .inl (0, 8, .inl (l 2)) ∧ M (o + 3) = .inl (0, 8, .inl (l 3)) ∧ M (o + 4) = .inl (0, 8, .inl (l 4)) ∧ M (o + 5) = .inl (0, 64, .inl (l 5)) ∧ M (o + 6) = .inl (0, 8, .inl (l 6)) ∧ M (o + 7) = .inl (0, 8, .inl (l 7)) ∧ M (o + 8) = .inl (0, 8, .inl (l 8))
/-- a Charter at c, by the numbers of its fields: 0 names, 1 ears, 2 grows, 3 titles, 4 owners, 5 worths, 6 falls, 7 persons, 8 stories, 9 free, 10 fake, 11 gift, 12 ruin; nm 0 the names, nm 3 the titles -/
def ch (M : ai_M) (n c : Nat) (k : Nat → Nat → Int32) (nm : Nat → Nat → Int64) : Prop := c + 7 < n ∧ M c = .inr (1, [.ref (c + 1), .ref (c + 2), .ref (c + 3), .ref (c + 4), .ref (c + 5), .ref (c + 6), .ref (c + 7), .int (k 7 0), .int (k 8 0), .int (k 9 0), .int (k 10 0), .int (k 11 0), .int (k 12 0)]) ∧ M (c + 1) = .inl (3, 8, .inr (.inl (nm 0))) ∧ M (c + 2) = .inl (0, 8, .inl (k 1)) ∧ M (c + 3) = .inl (0, 8, .inl (k 2)) ∧ M (c + 4) = .inl (3, 8, .inr (.inl (nm 3))) ∧ M (c + 5) = .inl (0, 8, .inl (k 4)) ∧ M (c + 6) = .inl (0, 8, .inl (k 5)) ∧ M (c + 7) = .inl (0, 8, .inl (k 6))
theorem hk0 {x y : Int32} {st : List Value} : ai_hook ET 0 (.int y :: .int x :: st) = if ai_sm st ≤ 8 then some (.int (if x < y then y else x) :: st) else none := rfl
theorem hk1 {x y : Int32} {st : List Value} : ai_hook ET 1 (.int y :: .int x :: st) = if ai_sm st ≤ 8 then some (.int (if y < x then y else x) :: st) else none := rfl
theorem fi0 : ((0 : Fin 4) : Nat) = 0 := rfl
theorem fi1 : ((1 : Fin 4) : Nat) = 1 := rfl
theorem fi2 : ((2 : Fin 4) : Nat) = 2 := rfl
theorem fi3 : ((3 : Fin 4) : Nat) = 3 := rfl
theorem lt_or (a b : Int32) : (a < b ∧ ¬ b ≤ a) ∨ (¬ a < b ∧ b ≤ a) := by
  by_cases h : a < b
  · exact Or.inl ⟨h, Int32.not_le.mpr h⟩
  · exact Or.inr ⟨h, Int32.not_lt.mp h⟩
/-- a bit -/
def bit (w x : Int32) : Int32 := w >>> (x &&& 31) &&& 1
def b01 (p : Prop) [Decidable p] : Int32 := if p then 1 else 0
theorem ib_nI {k N : Nat} (h : k < N) (hN : N ≤ 1000000) : ai_ib (nI k) N = true := by
  unfold ai_ib
  rw [nI_clamp (by omega)]
  simp
  exact ⟨by have := nI_pos (n := k) (by omega); simpa using this, h⟩
set_option maxHeartbeats 4000000 in
theorem note_eq {o c : Nat} {l : Nat → Nat → Int32} (h : lf M n o c l) {a b : Nat} (ha : a < 8) (hb : b < 8) : aw ET G d 43 0 [some (.ref o), some (.int (nI a)), some (.int (nI b))] [] n sl M Q = Q [.int (l 5 (a * 8 + b))] n sl M := by
  obtain ⟨ho, hM, h1, h2, h3, h4, h5, h6, h7, h8⟩ := h
  have e : nI a * 8 + nI b = nI (a * 8 + b) := by
    rw [show (8 : Int32) = nI 8 from rfl, pk_mul, nI_add]
  have hib := ib_nI (k := a * 8 + b) (N := 64) (by omega) (by omega)
  have hcl : (nI (a * 8 + b)).toNatClampNeg = a * 8 + b := nI_clamp (by omega)
  simp [w43_0, w43_1, w43_4, w43_5, w43_7, w43_8, w43_9, w43_10, w43_11, ow43, rt43, in43, pl3_24, nf3, aw_st, ai_cls, ai_len, ai_p, ai_sw, ai_m, ai_c, aw_go, ai_at, ai_isI, ai_isJ, ai_isA, ai_ld, ai_1i, ai_2i, ai_2l, ai_cn, ai_j, ai_set, ai_set2, ai_nl, ai_rs, ai_this, ai_ar, ai_en, ai_sm, Value.category, hk0, hk1, ai_ft, fi0, fi1, fi2, fi3, hM, h5, show o < n by omega, show o + 5 < n by omega, e, hib, hcl]
/-- a sum of k from place j on, beginning with acc -/
def rsum (f : Nat → Int32) : Nat → Nat → Int32 → Int32
  | _, 0, acc => acc
  | j, k + 1, acc => rsum f (j + 1) k (acc + f j)
theorem le_nI8 {q : Nat} (h : q < 1000) : ((8 : Int32) ≤ nI q) = (8 ≤ q) := by
  rw [show (8 : Int32) = nI 8 from rfl, nI_leI (by omega) (by omega)]
set_option maxHeartbeats 4000000 in
theorem debt_loop {o c : Nat} {l : Nat → Nat → Int32} (h : lf M n o c l) {p : Nat} (hp : p < 8) : ∀ (k q : Nat) (acc : Int32), q + k = 8 → aw ET G (d + 1) 63 4 [some (.ref o), some (.int (nI p)), some (.int acc), some (.int (nI q))] [] n sl M Q = Q [.int (rsum (l 5) (p * 8 + q) k acc)] n sl M := by
  intro k
  induction k with
  | zero =>
    intro q acc hq
    have : q = 8 := by omega
    subst this
    simp [w63_0, w63_1, w63_2, w63_3, w63_4, w63_5, w63_7, w63_10, w63_11, w63_12, w63_13, w63_14, w63_17, w63_18, w63_19, w63_22, w63_25, w63_26, ow63, rt63, in63, pl3_62, ow43, mx43, aw_st, ai_cls, ai_len, ai_p, ai_sw, ai_m, ai_c, aw_go, ai_at, ai_isI, ai_isJ, ai_isA, ai_ld, ai_1i, ai_2i, ai_2l, ai_cn, ai_j, ai_set, ai_set2, ai_nl, ai_rs, ai_this, ai_ar, ai_en, ai_sm, Value.category, hk0, hk1, ai_ft, fi0, fi1, fi2, fi3, rsum, show nI 8 = 8 from rfl]
  | succ k ih =>
    intro q acc hq
    have hc : ¬ (8 : Int32) ≤ nI q := by rw [le_nI8 (by omega)]; omega
    have hn : ∀ Q : List Value → Nat → Nat → ai_M → Prop, aw ET G d 43 0 [some (.ref o), some (.int (nI p)), some (.int (nI q))] [] n sl M Q = Q [.int (l 5 (p * 8 + q))] n sl M := fun Q => note_eq h hp (by omega)
    obtain ⟨ho, hM, -⟩ := h
    rw [w63_4]
    simp [w63_0, w63_1, w63_2, w63_3, w63_5, w63_7, w63_10, w63_11, w63_12, w63_13, w63_14, w63_17, w63_18, w63_19, w63_22, w63_25, w63_26, ow63, rt63, in63, pl3_62, ow43, mx43, aw_st, ai_cls, ai_len, ai_p, ai_sw, ai_m, ai_c, aw_go, ai_at, ai_isI, ai_isJ, ai_isA, ai_ld, ai_1i, ai_2i, ai_2l, ai_cn, ai_j, ai_set, ai_set2, ai_nl, ai_rs, ai_this, ai_ar, ai_en, ai_sm, Value.category, hk0, hk1, ai_ft, fi0, fi1, fi2, fi3, hM, show o < n by omega, hc, hn, nI_1, ih (q + 1) (acc + l 5 (p * 8 + q)) (by omega), rsum, Nat.add_assoc]
theorem debt_eq {o c : Nat} {l : Nat → Nat → Int32} (h : lf M n o c l) {p : Nat} (hp : p < 8) : aw ET G (d + 1) 63 0 [some (.ref o), some (.int (nI p)), none, none] [] n sl M Q = Q [.int (rsum (l 5) (p * 8) 8 0)] n sl M := by
  have := debt_loop (G := G) (d := d) (sl := sl) (Q := Q) h hp 8 0 0 rfl
  simp [w63_0, w63_1, w63_2, w63_3, w63_5, w63_7, w63_10, w63_11, w63_12, w63_13, w63_14, w63_17, w63_18, w63_19, w63_22, w63_25, w63_26, ow63, rt63, in63, pl3_62, ow43, mx43, aw_st, ai_cls, ai_len, ai_p, ai_sw, ai_m, ai_c, aw_go, ai_at, ai_isI, ai_isJ, ai_isA, ai_ld, ai_1i, ai_2i, ai_2l, ai_cn, ai_j, ai_set, ai_set2, ai_nl, ai_rs, ai_this, ai_ar, ai_en, ai_sm, Value.category, hk0, hk1, ai_ft, fi0, fi1, fi2, fi3] at this ⊢
  exact this
set_option maxHeartbeats 4000000 in
theorem hasPerson_eq {c : Nat} {k : Nat → Nat → Int32} {nm : Nat → Nat → Int64} (h : ch M n c k nm) {x : Int32} : aw ET G d 59 0 [some (.ref c), some (.int x)] [] n sl M Q = Q [.int (b01 (¬ x < 0 ∧ x < k 7 0 ∧ x < 8))] n sl M := by
  obtain ⟨ho, hM, -⟩ := h
  simp [w59_0, w59_1, w59_4, w59_5, w59_6, w59_9, w59_12, w59_13, w59_15, w59_18, w59_19, w59_22, w59_23, ow59, rt59, in59, pl1_34, nf1, aw_st, ai_cls, ai_len, ai_p, ai_sw, ai_m, ai_c, aw_go, ai_at, ai_isI, ai_isJ, ai_isA, ai_ld, ai_1i, ai_2i, ai_2l, ai_cn, ai_j, ai_set, ai_set2, ai_nl, ai_rs, ai_this, ai_ar, ai_en, ai_sm, Value.category, hk0, hk1, ai_ft, fi0, fi1, fi2, fi3, hM, show c < n by omega, b01]
  rcases lt_or x 0 with ⟨h1, g1⟩ | ⟨h1, g1⟩ <;> rcases lt_or x (k 7 0) with ⟨h2, g2⟩ | ⟨h2, g2⟩ <;> rcases lt_or x 8 with ⟨h3, g3⟩ | ⟨h3, g3⟩ <;> simp [h1, g1, h2, g2, h3, g3]
set_option maxHeartbeats 4000000 in
theorem hasStory_eq {c : Nat} {k : Nat → Nat → Int32} {nm : Nat → Nat → Int64} (h : ch M n c k nm) {x : Int32} : aw ET G d 77 0 [some (.ref c), some (.int x)] [] n sl M Q = Q [.int (b01 (¬ x < 0 ∧ x < k 8 0 ∧ x < 8))] n sl M := by
  obtain ⟨ho, hM, -⟩ := h
  simp [w77_0, w77_1, w77_4, w77_5, w77_6, w77_9, w77_12, w77_13, w77_15, w77_18, w77_19, w77_22, w77_23, ow77, rt77, in77, pl1_38, nf1, aw_st, ai_cls, ai_len, ai_p, ai_sw, ai_m, ai_c, aw_go, ai_at, ai_isI, ai_isJ, ai_isA, ai_ld, ai_1i, ai_2i, ai_2l, ai_cn, ai_j, ai_set, ai_set2, ai_nl, ai_rs, ai_this, ai_ar, ai_en, ai_sm, Value.category, hk0, hk1, ai_ft, fi0, fi1, fi2, fi3, hM, show c < n by omega, b01]
  rcases lt_or x 0 with ⟨h1, g1⟩ | ⟨h1, g1⟩ <;> rcases lt_or x (k 8 0) with ⟨h2, g2⟩ | ⟨h2, g2⟩ <;> rcases lt_or x 8 with ⟨h3, g3⟩ | ⟨h3, g3⟩ <;> simp [h1, g1, h2, g2, h3, g3]
set_option maxHeartbeats 4000000 in
theorem isFree_eq {c : Nat} {k : Nat → Nat → Int32} {nm : Nat → Nat → Int64} (h : ch M n c k nm) {x : Int32} : aw ET G d 69 0 [some (.ref c), some (.int x)] [] n sl M Q = Q [.int (b01 (bit (k 9 0) x = 1))] n sl M := by
  obtain ⟨ho, hM, -⟩ := h
  simp [w69_0, w69_1, w69_4, w69_5, w69_6, w69_7, w69_8, w69_9, w69_12, w69_13, w69_16, w69_17, ow69, rt69, in69, pl1_41, nf1, aw_st, ai_cls, ai_len, ai_p, ai_sw, ai_m, ai_c, aw_go, ai_at, ai_isI, ai_isJ, ai_isA, ai_ld, ai_1i, ai_2i, ai_2l, ai_cn, ai_j, ai_set, ai_set2, ai_nl, ai_rs, ai_this, ai_ar, ai_en, ai_sm, Value.category, hk0, hk1, ai_ft, fi0, fi1, fi2, fi3, hM, show c < n by omega, b01, bit]
  split <;> simp_all
set_option maxHeartbeats 4000000 in
theorem isFake_eq {c : Nat} {k : Nat → Nat → Int32} {nm : Nat → Nat → Int64} (h : ch M n c k nm) {x : Int32} : aw ET G d 73 0 [some (.ref c), some (.int x)] [] n sl M Q = Q [.int (b01 (bit (k 10 0) x = 1))] n sl M := by
  obtain ⟨ho, hM, -⟩ := h
  simp [w73_0, w73_1, w73_4, w73_5, w73_6, w73_7, w73_8, w73_9, w73_12, w73_13, w73_16, w73_17, ow73, rt73, in73, pl1_44, nf1, aw_st, ai_cls, ai_len, ai_p, ai_sw, ai_m, ai_c, aw_go, ai_at, ai_isI, ai_isJ, ai_isA, ai_ld, ai_1i, ai_2i, ai_2l, ai_cn, ai_j, ai_set, ai_set2, ai_nl, ai_rs, ai_this, ai_ar, ai_en, ai_sm, Value.category, hk0, hk1, ai_ft, fi0, fi1, fi2, fi3, hM, show c < n by omega, b01, bit]
  split <;> simp_all
set_option maxHeartbeats 4000000 in
/-- hours that one comes to owe who is heard -/
def dueI (k : Nat → Nat → Int32) (x y : Int32) : Int32 := if bit (k 9 0) x = 1 then 0 else if 0 < y - k 11 0 then y - k 11 0 else 0
theorem hoursOwedFor_eq {c : Nat} {k : Nat → Nat → Int32} {nm : Nat → Nat → Int64} (h : ch M n c k nm) {x y : Int32} : aw ET G (d + 1) 74 0 [some (.ref c), some (.int x), some (.int y)] [] n sl M Q = Q [.int (dueI k x y)] n sl M := by
  have hf : ∀ Q : List Value → Nat → Nat → ai_M → Prop, aw ET G d 69 0 [some (.ref c), some (.int x)] [] n sl M Q = Q [.int (b01 (bit (k 9 0) x = 1))] n sl M := fun Q => isFree_eq h
  obtain ⟨ho, hM, -⟩ := h
  simp [w74_0, w74_1, w74_2, w74_5, w74_8, w74_9, w74_12, w74_13, w74_14, w74_15, w74_18, w74_19, w74_22, ow74, rt74, in74, pl1_59, ow69, mx69, pl1_47, nf1, pl1_63, aw_st, ai_cls, ai_len, ai_p, ai_sw, ai_m, ai_c, aw_go, ai_at, ai_isI, ai_isJ, ai_isA, ai_ld, ai_1i, ai_2i, ai_2l, ai_cn, ai_j, ai_set, ai_set2, ai_nl, ai_rs, ai_this, ai_ar, ai_en, ai_sm, Value.category, hk0, hk1, ai_ft, fi0, fi1, fi2, fi3, hM, show c < n by omega, hf, dueI]
  by_cases h1 : bit (k 9 0) x = 1 <;> simp [h1, b01]
set_option maxHeartbeats 4000000 in
theorem knowsStory_eq {o c : Nat} {l : Nat → Nat → Int32} (h : lf M n o c l) {x : Int32} {s : Nat} (hs : s < 8) : aw ET G d 79 0 [some (.ref o), some (.int x), some (.int (nI s))] [] n sl M Q = Q [.int (b01 (bit (l 7 s) x = 1))] n sl M := by
  obtain ⟨ho, hM, h1, h2, h3, h4, h5, h6, h7, h8⟩ := h
  have hib := ib_nI (k := s) (N := 8) hs (by omega)
  have hcl : (nI s).toNatClampNeg = s := nI_clamp (by omega)
  simp [w79_0, w79_1, w79_4, w79_5, w79_6, w79_7, w79_8, w79_9, w79_10, w79_11, w79_14, w79_15, w79_18, w79_19, ow79, rt79, in79, pl3_30, nf3, aw_st, ai_cls, ai_len, ai_p, ai_sw, ai_m, ai_c, aw_go, ai_at, ai_isI, ai_isJ, ai_isA, ai_ld, ai_1i, ai_2i, ai_2l, ai_cn, ai_j, ai_set, ai_set2, ai_nl, ai_rs, ai_this, ai_ar, ai_en, ai_sm, Value.category, hk0, hk1, ai_ft, fi0, fi1, fi2, fi3, hM, h7, show o < n by omega, show o + 7 < n by omega, hib, hcl, b01, bit]
  split <;> simp_all
set_option maxHeartbeats 4000000 in
/-- the worth of a story that was told so often -/
def worI (k : Nat → Nat → Int32) (s : Nat) (t : Int32) : Int32 := if 0 < k 5 s - k 6 s * t then k 5 s - k 6 s * t else 0
theorem worthAt_eq {o c : Nat} {l k : Nat → Nat → Int32} {nm : Nat → Nat → Int64} (h : lf M n o c l) (hc : ch M n c k nm) {s : Nat} (hs : s < 8) {t : Int32} : aw ET G (d + 1) 82 0 [some (.ref o), some (.int (nI s)), some (.int t)] [] n sl M Q = Q [.int (worI k s t)] n sl M := by
  obtain ⟨ho, hM, -⟩ := h
  obtain ⟨co, cM, c1, c2, c3, c4, c5, c6, c7⟩ := hc
  have hib := ib_nI (k := s) (N := 8) hs (by omega)
  have hcl : (nI s).toNatClampNeg = s := nI_clamp (by omega)
  simp [w82_0, w82_1, w82_2, w82_5, w82_8, w82_9, w82_10, w82_11, w82_14, w82_17, w82_18, w82_19, w82_20, w82_21, w82_22, w82_25, ow82, rt82, in82, pl3_52, nf3, pl3_73, nf1, pl3_78, pl3_81, aw_st, ai_cls, ai_len, ai_p, ai_sw, ai_m, ai_c, aw_go, ai_at, ai_isI, ai_isJ, ai_isA, ai_ld, ai_1i, ai_2i, ai_2l, ai_cn, ai_j, ai_set, ai_set2, ai_nl, ai_rs, ai_this, ai_ar, ai_en, ai_sm, Value.category, hk0, hk1, ai_ft, fi0, fi1, fi2, fi3, hM, cM, c6, c7, show o < n by omega, show c < n by omega, show c + 6 < n by omega, show c + 7 < n by omega, hib, hcl, worI]
end LIF
