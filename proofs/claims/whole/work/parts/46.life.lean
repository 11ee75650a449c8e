/-! LIFE, VII: copies, sales, years -/
section LIL
variable {G : ai_G} {d n sl : Nat} {M : ai_M} {Q : List Value → Nat → Nat → ai_M → Prop}
/-- a life that is a copy of another one (the row of the last ring stays) -/
def cpyL (l r : Nat → Nat → Int32) : Nat → Nat → Int32 := fun j => if j = 8 then l 8 else if j = 5 then va_cpy (r 5) (l 5) 0 0 64 else if j < 8 then va_cpy (r j) (l j) 0 0 8 else fun _ => r j 0
set_option maxHeartbeats 4000000 in
theorem lcopy_0 {o c q cq : Nat} {l r : Nat → Nat → Int32} (hG : G.1 = false) (h : lf M n o c l) (hr : lf M n q cq r) (hd : q + 8 < o ∨ o + 8 < q) (hQ : ∀ M', lf M' n o c (vf_upd l 1 (va_cpy (r 1) (l 1) 0 0 8)) → lf M' n q cq r → (∀ i, i < o ∨ o + 8 < i → M' i = M i) → aw ET G (d + 1) 53 15 [some (.ref o), some (.ref q)] [] n sl M' Q) : aw ET G (d + 1) 53 0 [some (.ref o), some (.ref q)] [] n sl M Q := by
  have hl := h
  have hrr := hr
  obtain ⟨ho, hM, h1, h2, h3, h4, h5, h6, h7, h8⟩ := h
  obtain ⟨go, gM, g1, g2, g3, g4, g5, g6, g7, g8⟩ := hr
  simp [w53_0, w53_1, w53_4, w53_5, w53_6, w53_9, w53_10, w53_12, ow53, rt53, in53, pl3_9, nf3, pl3_56, aw_st, ai_cls, ai_len, ai_p, ai_sw, ai_m, ai_c, aw_go, ai_at, ai_isI, ai_isJ, ai_isA, ai_ld, ai_1i, ai_2i, ai_2l, ai_cn, ai_j, ai_set, ai_set2, ai_nl, ai_rs, ai_this, ai_ar, ai_en, ai_sm, Value.category, hk0, hk1, ai_ft, fi0, fi1, fi2, fi3, ai_cp, hG, hM, gM, h1, g1, show o < n by omega, show o + 1 < n by omega, show q < n by omega, show q + 1 < n by omega, show (0 : Int32).toNatClampNeg = 0 from rfl, show (8 : Int32).toNatClampNeg = 8 from rfl]
  apply hQ
  · exact lf_row hl 1 _ (by omega) (by simp [va_up]) (fun i hi => by simp [va_up, hi])
  · exact lf_kept hrr (fun i i1 i2 => by simp [va_up, show ¬ i = o + 1 by omega])
  · intro i hi
    simp [va_up, show ¬ i = o + 1 by omega]
set_option maxHeartbeats 4000000 in
theorem lcopy_15 {o c q cq : Nat} {l r : Nat → Nat → Int32} (hG : G.1 = false) (h : lf M n o c l) (hr : lf M n q cq r) (hd : q + 8 < o ∨ o + 8 < q) (hQ : ∀ M', lf M' n o c (vf_upd l 2 (va_cpy (r 2) (l 2) 0 0 8)) → lf M' n q cq r → (∀ i, i < o ∨ o + 8 < i → M' i = M i) → aw ET G (d + 1) 53 30 [some (.ref o), some (.ref q)] [] n sl M' Q) : aw ET G (d + 1) 53 15 [some (.ref o), some (.ref q)] [] n sl M Q := by
  have hl := h
  have hrr := hr
  obtain ⟨ho, hM, h1, h2, h3, h4, h5, h6, h7, h8⟩ := h
  obtain ⟨go, gM, g1, g2, g3, g4, g5, g6, g7, g8⟩ := hr
  simp [w53_15, w53_16, w53_19, w53_20, w53_21, w53_24, w53_25, w53_27, ow53, rt53, in53, pl3_15, nf3, pl3_56, aw_st, ai_cls, ai_len, ai_p, ai_sw, ai_m, ai_c, aw_go, ai_at, ai_isI, ai_isJ, ai_isA, ai_ld, ai_1i, ai_2i, ai_2l, ai_cn, ai_j, ai_set, ai_set2, ai_nl, ai_rs, ai_this, ai_ar, ai_en, ai_sm, Value.category, hk0, hk1, ai_ft, fi0, fi1, fi2, fi3, ai_cp, hG, hM, gM, h2, g2, show o < n by omega, show o + 2 < n by omega, show q < n by omega, show q + 2 < n by omega, show (0 : Int32).toNatClampNeg = 0 from rfl, show (8 : Int32).toNatClampNeg = 8 from rfl]
  apply hQ
  · exact lf_row hl 2 _ (by omega) (by simp [va_up]) (fun i hi => by simp [va_up, hi])
  · exact lf_kept hrr (fun i i1 i2 => by simp [va_up, show ¬ i = o + 2 by omega])
  · intro i hi
    simp [va_up, show ¬ i = o + 2 by omega]
set_option maxHeartbeats 4000000 in
theorem lcopy_30 {o c q cq : Nat} {l r : Nat → Nat → Int32} (hG : G.1 = false) (h : lf M n o c l) (hr : lf M n q cq r) (hd : q + 8 < o ∨ o + 8 < q) (hQ : ∀ M', lf M' n o c (vf_upd l 3 (va_cpy (r 3) (l 3) 0 0 8)) → lf M' n q cq r → (∀ i, i < o ∨ o + 8 < i → M' i = M i) → aw ET G (d + 1) 53 45 [some (.ref o), some (.ref q)] [] n sl M' Q) : aw ET G (d + 1) 53 30 [some (.ref o), some (.ref q)] [] n sl M Q := by
  have hl := h
  have hrr := hr
  obtain ⟨ho, hM, h1, h2, h3, h4, h5, h6, h7, h8⟩ := h
  obtain ⟨go, gM, g1, g2, g3, g4, g5, g6, g7, g8⟩ := hr
  simp [w53_30, w53_31, w53_34, w53_35, w53_36, w53_39, w53_40, w53_42, ow53, rt53, in53, pl3_18, nf3, pl3_56, aw_st, ai_cls, ai_len, ai_p, ai_sw, ai_m, ai_c, aw_go, ai_at, ai_isI, ai_isJ, ai_isA, ai_ld, ai_1i, ai_2i, ai_2l, ai_cn, ai_j, ai_set, ai_set2, ai_nl, ai_rs, ai_this, ai_ar, ai_en, ai_sm, Value.category, hk0, hk1, ai_ft, fi0, fi1, fi2, fi3, ai_cp, hG, hM, gM, h3, g3, show o < n by omega, show o + 3 < n by omega, show q < n by omega, show q + 3 < n by omega, show (0 : Int32).toNatClampNeg = 0 from rfl, show (8 : Int32).toNatClampNeg = 8 from rfl]
  apply hQ
  · exact lf_row hl 3 _ (by omega) (by simp [va_up]) (fun i hi => by simp [va_up, hi])
  · exact lf_kept hrr (fun i i1 i2 => by simp [va_up, show ¬ i = o + 3 by omega])
  · intro i hi
    simp [va_up, show ¬ i = o + 3 by omega]
set_option maxHeartbeats 4000000 in
theorem lcopy_45 {o c q cq : Nat} {l r : Nat → Nat → Int32} (hG : G.1 = false) (h : lf M n o c l) (hr : lf M n q cq r) (hd : q + 8 < o ∨ o + 8 < q) (hQ : ∀ M', lf M' n o c (vf_upd l 4 (va_cpy (r 4) (l 4) 0 0 8)) → lf M' n q cq r → (∀ i, i < o ∨ o + 8 < i → M' i = M i) → aw ET G (d + 1) 53 60 [some (.ref o), some (.ref q)] [] n sl M' Q) : aw ET G (d + 1) 53 45 [some (.ref o), some (.ref q)] [] n sl M Q := by
  have hl := h
  have hrr := hr
  obtain ⟨ho, hM, h1, h2, h3, h4, h5, h6, h7, h8⟩ := h
  obtain ⟨go, gM, g1, g2, g3, g4, g5, g6, g7, g8⟩ := hr
  simp [w53_45, w53_46, w53_49, w53_50, w53_51, w53_54, w53_55, w53_57, ow53, rt53, in53, pl3_21, nf3, pl3_56, aw_st, ai_cls, ai_len, ai_p, ai_sw, ai_m, ai_c, aw_go, ai_at, ai_isI, ai_isJ, ai_isA, ai_ld, ai_1i, ai_2i, ai_2l, ai_cn, ai_j, ai_set, ai_set2, ai_nl, ai_rs, ai_this, ai_ar, ai_en, ai_sm, Value.category, hk0, hk1, ai_ft, fi0, fi1, fi2, fi3, ai_cp, hG, hM, gM, h4, g4, show o < n by omega, show o + 4 < n by omega, show q < n by omega, show q + 4 < n by omega, show (0 : Int32).toNatClampNeg = 0 from rfl, show (8 : Int32).toNatClampNeg = 8 from rfl]
  apply hQ
  · exact lf_row hl 4 _ (by omega) (by simp [va_up]) (fun i hi => by simp [va_up, hi])
  · exact lf_kept hrr (fun i i1 i2 => by simp [va_up, show ¬ i = o + 4 by omega])
  · intro i hi
    simp [va_up, show ¬ i = o + 4 by omega]
set_option maxHeartbeats 4000000 in
theorem lcopy_60 {o c q cq : Nat} {l r : Nat → Nat → Int32} (hG : G.1 = false) (h : lf M n o c l) (hr : lf M n q cq r) (hd : q + 8 < o ∨ o + 8 < q) (hQ : ∀ M', lf M' n o c (vf_upd l 5 (va_cpy (r 5) (l 5) 0 0 64)) → lf M' n q cq r → (∀ i, i < o ∨ o + 8 < i → M' i = M i) → aw ET G (d + 1) 53 75 [some (.ref o), some (.ref q)] [] n sl M' Q) : aw ET G (d + 1) 53 60 [some (.ref o), some (.ref q)] [] n sl M Q := by
  have hl := h
  have hrr := hr
  obtain ⟨ho, hM, h1, h2, h3, h4, h5, h6, h7, h8⟩ := h
  obtain ⟨go, gM, g1, g2, g3, g4, g5, g6, g7, g8⟩ := hr
  simp [w53_60, w53_61, w53_64, w53_65, w53_66, w53_69, w53_70, w53_72, ow53, rt53, in53, pl3_24, nf3, pl3_56, aw_st, ai_cls, ai_len, ai_p, ai_sw, ai_m, ai_c, aw_go, ai_at, ai_isI, ai_isJ, ai_isA, ai_ld, ai_1i, ai_2i, ai_2l, ai_cn, ai_j, ai_set, ai_set2, ai_nl, ai_rs, ai_this, ai_ar, ai_en, ai_sm, Value.category, hk0, hk1, ai_ft, fi0, fi1, fi2, fi3, ai_cp, hG, hM, gM, h5, g5, show o < n by omega, show o + 5 < n by omega, show q < n by omega, show q + 5 < n by omega, show (0 : Int32).toNatClampNeg = 0 from rfl, show (64 : Int32).toNatClampNeg = 64 from rfl]
  apply hQ
  · exact lf_row hl 5 _ (by omega) (by simp [va_up]) (fun i hi => by simp [va_up, hi])
  · exact lf_kept hrr (fun i i1 i2 => by simp [va_up, show ¬ i = o + 5 by omega])
  · intro i hi
    simp [va_up, show ¬ i = o + 5 by omega]
set_option maxHeartbeats 4000000 in
theorem lcopy_75 {o c q cq : Nat} {l r : Nat → Nat → Int32} (hG : G.1 = false) (h : lf M n o c l) (hr : lf M n q cq r) (hd : q + 8 < o ∨ o + 8 < q) (hQ : ∀ M', lf M' n o c (vf_upd l 6 (va_cpy (r 6) (l 6) 0 0 8)) → lf M' n q cq r → (∀ i, i < o ∨ o + 8 < i → M' i = M i) → aw ET G (d + 1) 53 90 [some (.ref o), some (.ref q)] [] n sl M' Q) : aw ET G (d + 1) 53 75 [some (.ref o), some (.ref q)] [] n sl M Q := by
  have hl := h
  have hrr := hr
  obtain ⟨ho, hM, h1, h2, h3, h4, h5, h6, h7, h8⟩ := h
  obtain ⟨go, gM, g1, g2, g3, g4, g5, g6, g7, g8⟩ := hr
  simp [w53_75, w53_76, w53_79, w53_80, w53_81, w53_84, w53_85, w53_87, ow53, rt53, in53, pl3_27, nf3, pl3_56, aw_st, ai_cls, ai_len, ai_p, ai_sw, ai_m, ai_c, aw_go, ai_at, ai_isI, ai_isJ, ai_isA, ai_ld, ai_1i, ai_2i, ai_2l, ai_cn, ai_j, ai_set, ai_set2, ai_nl, ai_rs, ai_this, ai_ar, ai_en, ai_sm, Value.category, hk0, hk1, ai_ft, fi0, fi1, fi2, fi3, ai_cp, hG, hM, gM, h6, g6, show o < n by omega, show o + 6 < n by omega, show q < n by omega, show q + 6 < n by omega, show (0 : Int32).toNatClampNeg = 0 from rfl, show (8 : Int32).toNatClampNeg = 8 from rfl]
  apply hQ
  · exact lf_row hl 6 _ (by omega) (by simp [va_up]) (fun i hi => by simp [va_up, hi])
  · exact lf_kept hrr (fun i i1 i2 => by simp [va_up, show ¬ i = o + 6 by omega])
  · intro i hi
    simp [va_up, show ¬ i = o + 6 by omega]
set_option maxHeartbeats 4000000 in
theorem lcopy_90 {o c q cq : Nat} {l r : Nat → Nat → Int32} (hG : G.1 = false) (h : lf M n o c l) (hr : lf M n q cq r) (hd : q + 8 < o ∨ o + 8 < q) (hQ : ∀ M', lf M' n o c (vf_upd l 7 (va_cpy (r 7) (l 7) 0 0 8)) → lf M' n q cq r → (∀ i, i < o ∨ o + 8 < i → M' i = M i) → aw ET G (d + 1) 53 105 [some (.ref o), some (.ref q)] [] n sl M' Q) : aw ET G (d + 1) 53 90 [some (.ref o), some (.ref q)] [] n sl M Q := by
  have hl := h
  have hrr := hr
  obtain ⟨ho, hM, h1, h2, h3, h4, h5, h6, h7, h8⟩ := h
  obtain ⟨go, gM, g1, g2, g3, g4, g5, g6, g7, g8⟩ := hr
  simp [w53_90, w53_91, w53_94, w53_95, w53_96, w53_99, w53_100, w53_102, ow53, rt53, in53, pl3_30, nf3, pl3_56, aw_st, ai_cls, ai_len, ai_p, ai_sw, ai_m, ai_c, aw_go, ai_at, ai_isI, ai_isJ, ai_isA, ai_ld, ai_1i, ai_2i, ai_2l, ai_cn, ai_j, ai_set, ai_set2, ai_nl, ai_rs, ai_this, ai_ar, ai_en, ai_sm, Value.category, hk0, hk1, ai_ft, fi0, fi1, fi2, fi3, ai_cp, hG, hM, gM, h7, g7, show o < n by omega, show o + 7 < n by omega, show q < n by omega, show q + 7 < n by omega, show (0 : Int32).toNatClampNeg = 0 from rfl, show (8 : Int32).toNatClampNeg = 8 from rfl]
  apply hQ
  · exact lf_row hl 7 _ (by omega) (by simp [va_up]) (fun i hi => by simp [va_up, hi])
  · exact lf_kept hrr (fun i i1 i2 => by simp [va_up, show ¬ i = o + 7 by omega])
  · intro i hi
    simp [va_up, show ¬ i = o + 7 by omega]
set_option maxHeartbeats 4000000 in
theorem lcopy_105 {o c q cq : Nat} {l r : Nat → Nat → Int32} (h : lf M n o c l) (hr : lf M n q cq r) (hd : q + 8 < o ∨ o + 8 < q) (hQ : ∀ M', lf M' n o c (fun j => if j < 9 then l j else fun _ => r j 0) → (∀ i, i < o ∨ o + 8 < i → M' i = M i) → Q [] n sl M') : aw ET G (d + 1) 53 105 [some (.ref o), some (.ref q)] [] n sl M Q := by
  obtain ⟨ho, hM, h1, h2, h3, h4, h5, h6, h7, h8⟩ := h
  obtain ⟨go, gM, g1, g2, g3, g4, g5, g6, g7, g8⟩ := hr
  simp [w53_105, w53_106, w53_107, w53_110, w53_113, w53_114, w53_115, w53_118, w53_121, w53_122, w53_123, w53_126, w53_129, w53_130, w53_131, w53_134, w53_137, w53_138, w53_139, w53_142, w53_145, ow53, rt53, in53, pl3_36, pl3_40, pl3_43, pl3_46, pl3_49, nf3, ft3_9, ft3_10, ft3_11, ft3_12, ft3_13, aw_st, ai_cls, ai_len, ai_p, ai_sw, ai_m, ai_c, aw_go, ai_at, ai_isI, ai_isJ, ai_isA, ai_ld, ai_1i, ai_2i, ai_2l, ai_cn, ai_j, ai_set, ai_set2, ai_nl, ai_rs, ai_this, ai_ar, ai_en, ai_sm, Value.category, hk0, hk1, ai_ft, fi0, fi1, fi2, fi3, hM, gM, show o < n by omega, show q < n by omega, va_up, show ¬ q = o by omega]
  apply hQ
  · simp [lf, va_up, hM, h1, h2, h3, h4, h5, h6, h7, h8, ho]
  · intro i hi
    simp [va_up, show ¬ i = o by omega]
theorem lcopy_wp {o c q cq : Nat} {l r : Nat → Nat → Int32} (hG : G.1 = false) (h : lf M n o c l) (hr : lf M n q cq r) (hd : q + 8 < o ∨ o + 8 < q) (hQ : ∀ M', lf M' n o c (cpyL l r) → (∀ j, j < o ∨ o + 8 < j → M' j = M j) → Q [] n sl M') : aw ET G (d + 1) 53 0 [some (.ref o), some (.ref q)] [] n sl M Q := by
  refine lcopy_0 hG h hr hd (fun M1 a1 b1 k1 => ?_)
  refine lcopy_15 hG a1 b1 hd (fun M2 a2 b2 k2 => ?_)
  refine lcopy_30 hG a2 b2 hd (fun M3 a3 b3 k3 => ?_)
  refine lcopy_45 hG a3 b3 hd (fun M4 a4 b4 k4 => ?_)
  refine lcopy_60 hG a4 b4 hd (fun M5 a5 b5 k5 => ?_)
  refine lcopy_75 hG a5 b5 hd (fun M6 a6 b6 k6 => ?_)
  refine lcopy_90 hG a6 b6 hd (fun M7 a7 b7 k7 => ?_)
  refine lcopy_105 a7 b7 hd (fun M8 a8 k8 => ?_)
  refine hQ M8 ?_ (fun j hj => by rw [k8 j hj, k7 j hj, k6 j hj, k5 j hj, k4 j hj, k3 j hj, k2 j hj, k1 j hj])
  have e : (fun j => if j < 9 then (vf_upd (vf_upd (vf_upd (vf_upd (vf_upd (vf_upd (vf_upd l 1 (va_cpy (r 1) (l 1) 0 0 8)) 2 (va_cpy (r 2) (l 2) 0 0 8)) 3 (va_cpy (r 3) (l 3) 0 0 8)) 4 (va_cpy (r 4) (l 4) 0 0 8)) 5 (va_cpy (r 5) (l 5) 0 0 64)) 6 (va_cpy (r 6) (l 6) 0 0 8)) 7 (va_cpy (r 7) (l 7) 0 0 8)) j else fun _ => r j 0) 9 = cpyL l r 9 := by simp [cpyL]
  obtain ⟨x0, x1, x2, x3, x4, x5, x6, x7, x8, x9⟩ := a8
  simp [vf_upd] at x1 x2 x3 x4 x5 x6 x7 x8 x9
  simp [lf, cpyL, x0, x1, x2, x3, x4, x5, x6, x7, x8, x9]
/-- what comes of a story told to all who do not know it, from p on -/
def saleR (l k : Nat → Nat → Int32) (s : Nat) : Nat → Nat → Int32 → Int32 → Int32
  | _, 0, hrs, _ => hrs
  | p, r + 1, hrs, t => if bit (l 7 s) (nI p) = 1 then saleR l k s (p + 1) r hrs t else saleR l k s (p + 1) r (hrs + worI k s t) (t + 1)
set_option maxHeartbeats 4000000 in
theorem sale_loop {o c : Nat} {l k : Nat → Nat → Int32} {nm : Nat → Nat → Int64} (h : lf M n o c l) (hc : ch M n c k nm) {P : Nat} (hP : P ≤ 8) (hk : k 7 0 = nI P) {s : Nat} (hs : s < 8) {x : Int32} : ∀ (r p : Nat) (hrs t : Int32), p + r = P → aw ET G (d + 2) 119 24 [some (.ref o), some (.int x), some (.int (nI s)), some (.int hrs), some (.int t), some (.int (nI p))] [] n sl M Q = Q [.int (saleR l k s p r hrs t)] n sl M := by
  intro r
  induction r with
  | zero =>
    intro p hrs t hp
    have : p = P := by omega
    subst this
    obtain ⟨ho, hM, -⟩ := h
    obtain ⟨co, cM, -⟩ := hc
    simp [w119_0, w119_1, w119_2, w119_3, w119_6, w119_9, w119_10, w119_11, w119_12, w119_13, w119_14, w119_17, w119_18, w119_19, w119_21, w119_22, w119_24, w119_26, w119_27, w119_30, w119_33, w119_36, w119_37, w119_39, w119_40, w119_43, w119_46, w119_47, w119_48, w119_49, w119_51, w119_54, w119_55, w119_56, w119_59, w119_62, w119_65, w119_66, ow119, rt119, in119, pl3_109, ow79, mx79, pl3_27, nf3, pl3_52, pl3_119, nf1, pl3_70, ow82, mx82, aw_st, ai_cls, ai_len, ai_p, ai_sw, ai_m, ai_c, aw_go, ai_at, ai_isI, ai_isJ, ai_isA, ai_ld, ai_1i, ai_2i, ai_2l, ai_cn, ai_j, ai_set, ai_set2, ai_nl, ai_rs, ai_this, ai_ar, ai_en, ai_sm, Value.category, hk0, hk1, ai_ft, fi0, fi1, fi2, fi3, saleR, hM, cM, hk, show o < n by omega, show c < n by omega]
  | succ r ih =>
    intro p hrs t hp
    have hlt : ¬ nI P ≤ nI p := by rw [nI_leI (by omega) (by omega)]; omega
    have hf : ∀ Q : List Value → Nat → Nat → ai_M → Prop, aw ET G (d + 1) 79 0 [some (.ref o), some (.int (nI p)), some (.int (nI s))] [] n sl M Q = Q [.int (b01 (bit (l 7 s) (nI p) = 1))] n sl M := fun Q => knowsStory_eq h hs
    have hw : ∀ Q : List Value → Nat → Nat → ai_M → Prop, aw ET G (d + 1) 82 0 [some (.ref o), some (.int (nI s)), some (.int t)] [] n sl M Q = Q [.int (worI k s t)] n sl M := fun Q => worthAt_eq h hc hs
    obtain ⟨ho, hM, -⟩ := h
    obtain ⟨co, cM, -⟩ := hc
    rw [w119_24]
    by_cases hy : bit (l 7 s) (nI p) = 1
    · simp [w119_0, w119_1, w119_2, w119_3, w119_6, w119_9, w119_10, w119_11, w119_12, w119_13, w119_14, w119_17, w119_18, w119_19, w119_21, w119_22, w119_26, w119_27, w119_30, w119_33, w119_36, w119_37, w119_39, w119_40, w119_43, w119_46, w119_47, w119_48, w119_49, w119_51, w119_54, w119_55, w119_56, w119_59, w119_62, w119_65, w119_66, ow119, rt119, in119, pl3_109, ow79, mx79, pl3_27, nf3, pl3_52, pl3_119, nf1, pl3_70, ow82, mx82, aw_st, ai_cls, ai_len, ai_p, ai_sw, ai_m, ai_c, aw_go, ai_at, ai_isI, ai_isJ, ai_isA, ai_ld, ai_1i, ai_2i, ai_2l, ai_cn, ai_j, ai_set, ai_set2, ai_nl, ai_rs, ai_this, ai_ar, ai_en, ai_sm, Value.category, hk0, hk1, ai_ft, fi0, fi1, fi2, fi3, saleR, hM, cM, hk, hlt, hf, hw, hy, b01, show o < n by omega, show c < n by omega, nI_1, ih (p + 1) hrs t (by omega)]
    · simp [w119_0, w119_1, w119_2, w119_3, w119_6, w119_9, w119_10, w119_11, w119_12, w119_13, w119_14, w119_17, w119_18, w119_19, w119_21, w119_22, w119_26, w119_27, w119_30, w119_33, w119_36, w119_37, w119_39, w119_40, w119_43, w119_46, w119_47, w119_48, w119_49, w119_51, w119_54, w119_55, w119_56, w119_59, w119_62, w119_65, w119_66, ow119, rt119, in119, pl3_109, ow79, mx79, pl3_27, nf3, pl3_52, pl3_119, nf1, pl3_70, ow82, mx82, aw_st, ai_cls, ai_len, ai_p, ai_sw, ai_m, ai_c, aw_go, ai_at, ai_isI, ai_isJ, ai_isA, ai_ld, ai_1i, ai_2i, ai_2l, ai_cn, ai_j, ai_set, ai_set2, ai_nl, ai_rs, ai_this, ai_ar, ai_en, ai_sm, Value.category, hk0, hk1, ai_ft, fi0, fi1, fi2, fi3, saleR, hM, cM, hk, hlt, hf, hw, hy, b01, show o < n by omega, show c < n by omega, nI_1, ih (p + 1) (hrs + worI k s t) (t + 1) (by omega)]
/-- SOLD, or NONE -/
def saleI (l k : Nat → Nat → Int32) (P s : Nat) (x : Int32) : Int32 := if bit (l 7 s) x = 1 then saleR l k s 0 P 0 (l 6 s) else -1
set_option maxHeartbeats 4000000 in
theorem sale_eq {o c : Nat} {l k : Nat → Nat → Int32} {nm : Nat → Nat → Int64} (h : lf M n o c l) (hc : ch M n c k nm) {P : Nat} (hP : P ≤ 8) (hk : k 7 0 = nI P) {s : Nat} (hs : s < 8) {x : Int32} : aw ET G (d + 2) 119 0 [some (.ref o), some (.int x), some (.int (nI s)), none, none, none] [] n sl M Q = Q [.int (saleI l k P s x)] n sl M := by
  have hf : ∀ Q : List Value → Nat → Nat → ai_M → Prop, aw ET G (d + 1) 79 0 [some (.ref o), some (.int x), some (.int (nI s))] [] n sl M Q = Q [.int (b01 (bit (l 7 s) x = 1))] n sl M := fun Q => knowsStory_eq h hs
  have hlp := sale_loop (G := G) (d := d) (sl := sl) (Q := Q) h hc hP hk hs (x := x) P 0 0 (l 6 s) (by omega)
  rw [show nI 0 = 0 from rfl] at hlp
  have hs1 := ib_nI (k := s) (N := 8) hs (by omega)
  have hs2 : (nI s).toNatClampNeg = s := nI_clamp (by omega)
  obtain ⟨ho, hM, h1, h2, h3, h4, h5, h6, -⟩ := h
  by_cases hy : bit (l 7 s) x = 1
  · simp [w119_0, w119_1, w119_2, w119_3, w119_6, w119_9, w119_10, w119_11, w119_12, w119_13, w119_14, w119_17, w119_18, w119_19, w119_21, w119_22, w119_26, w119_27, w119_30, w119_33, w119_36, w119_37, w119_39, w119_40, w119_43, w119_46, w119_47, w119_48, w119_49, w119_51, w119_54, w119_55, w119_56, w119_59, w119_62, w119_65, w119_66, ow119, rt119, in119, pl3_109, ow79, mx79, pl3_27, nf3, pl3_52, pl3_119, nf1, pl3_70, ow82, mx82, aw_st, ai_cls, ai_len, ai_p, ai_sw, ai_m, ai_c, aw_go, ai_at, ai_isI, ai_isJ, ai_isA, ai_ld, ai_1i, ai_2i, ai_2l, ai_cn, ai_j, ai_set, ai_set2, ai_nl, ai_rs, ai_this, ai_ar, ai_en, ai_sm, Value.category, hk0, hk1, ai_ft, fi0, fi1, fi2, fi3, hM, h6, hf, hy, b01, saleI, show o < n by omega, show o + 6 < n by omega, hs1, hs2, hlp]
  · simp [w119_0, w119_1, w119_2, w119_3, w119_6, w119_9, w119_10, w119_11, w119_12, w119_13, w119_14, w119_17, w119_18, w119_19, w119_21, w119_22, w119_26, w119_27, w119_30, w119_33, w119_36, w119_37, w119_39, w119_40, w119_43, w119_46, w119_47, w119_48, w119_49, w119_51, w119_54, w119_55, w119_56, w119_59, w119_62, w119_65, w119_66, ow119, rt119, in119, pl3_109, ow79, mx79, pl3_27, nf3, pl3_52, pl3_119, nf1, pl3_70, ow82, mx82, aw_st, ai_cls, ai_len, ai_p, ai_sw, ai_m, ai_c, aw_go, ai_at, ai_isI, ai_isJ, ai_isA, ai_ld, ai_1i, ai_2i, ai_2l, ai_cn, ai_j, ai_set, ai_set2, ai_nl, ai_rs, ai_this, ai_ar, ai_en, ai_sm, Value.category, hk0, hk1, ai_ft, fi0, fi1, fi2, fi3, hM, h6, hf, hy, b01, saleI, show o < n by omega]
end LIL
