/-! LIFE, IV: hearing, telling -/
section LII
variable {G : ai_G} {d n sl : Nat} {M : ai_M} {Q : List Value → Nat → Nat → ai_M → Prop}
/-- apart: a charter's cells and a life's -/
def apart (o c : Nat) : Prop := c + 7 < o ∨ o + 8 < c
theorem ch_kept {c : Nat} {k : Nat → Nat → Int32} {nm : Nat → Nat → Int64} {M' : ai_M} (h : ch M n c k nm) (hk : ∀ j, c ≤ j → j ≤ c + 7 → M' j = M j) : ch M' n c k nm := by
  obtain ⟨h0, h1, h2, h3, h4, h5, h6, h7, h8⟩ := h
  exact ⟨h0, by rw [hk _ (by omega) (by omega)]; exact h1, by rw [hk _ (by omega) (by omega)]; exact h2, by rw [hk _ (by omega) (by omega)]; exact h3, by rw [hk _ (by omega) (by omega)]; exact h4, by rw [hk _ (by omega) (by omega)]; exact h5, by rw [hk _ (by omega) (by omega)]; exact h6, by rw [hk _ (by omega) (by omega)]; exact h7, by rw [hk _ (by omega) (by omega)]; exact h8⟩
theorem lf_kept {o c : Nat} {l : Nat → Nat → Int32} {M' : ai_M} (h : lf M n o c l) (hk : ∀ j, o ≤ j → j ≤ o + 8 → M' j = M j) : lf M' n o c l := by
  obtain ⟨h0, h1, h2, h3, h4, h5, h6, h7, h8, h9⟩ := h
  exact ⟨h0, by rw [hk _ (by omega) (by omega)]; exact h1, by rw [hk _ (by omega) (by omega)]; exact h2, by rw [hk _ (by omega) (by omega)]; exact h3, by rw [hk _ (by omega) (by omega)]; exact h4, by rw [hk _ (by omega) (by omega)]; exact h5, by rw [hk _ (by omega) (by omega)]; exact h6, by rw [hk _ (by omega) (by omega)]; exact h7, by rw [hk _ (by omega) (by omega)]; exact h8, by rw [hk _ (by omega) (by omega)]; exact h9⟩
/-- a life when a has heard b for x hours, up to what is owed -/
def hearA (l : Nat → Nat → Int32) (a b : Nat) (x : Int32) : Nat → Nat → Int32 := vf_upd (vf_upd (vf_upd (vf_upd l 2 (upd (l 2) a (l 2 a - x))) 3 (upd (l 3) a (l 3 a + x))) 4 (upd (l 4) b (l 4 b + x))) 13 (fun _ => l 13 0 + 1)
def hearB (l k : Nat → Nat → Int32) (a b : Nat) (x : Int32) : Nat → Nat → Int32 := if bit (k 10 0) (nI a) = 1 then vf_upd (hearA l a b x) 11 (fun _ => l 11 0 + x) else vf_upd (hearA l a b x) 1 (upd (l 1) b (l 1 b - x))
def hearL (l k : Nat → Nat → Int32) (a b : Nat) (x : Int32) : Nat → Nat → Int32 := vf_upd (hearB l k a b x) 5 (oweF (l 5) b a (dueI k (nI b) x))
set_option maxHeartbeats 4000000 in
theorem liveHearing_74 {o c : Nat} {l k : Nat → Nat → Int32} {nm : Nat → Nat → Int64} (h : lf M n o c l) (hc : ch M n c k nm) (hd : apart o c) {a b : Nat} (ha : a < 8) (hb : b < 8) {x : Int32} (hQ : ∀ M', lf M' n o c (vf_upd l 5 (oweF (l 5) b a (dueI k (nI b) x))) → (∀ j, ¬ j = o + 5 → M' j = M j) → Q [] n sl M') : aw ET G (d + 2) 72 74 [some (.ref o), some (.int (nI a)), some (.int (nI b)), some (.int x)] [] n sl M Q := by
  have hf : ∀ Q : List Value → Nat → Nat → ai_M → Prop, aw ET G (d + 1) 74 0 [some (.ref c), some (.int (nI b)), some (.int x)] [] n sl M Q = Q [.int (dueI k (nI b) x)] n sl M := fun Q => hoursOwedFor_eq hc
  have hl := h
  obtain ⟨ho, hM, -⟩ := h
  obtain ⟨co, cM, -⟩ := hc
  simp [w72_0, w72_1, w72_4, w72_5, w72_6, w72_7, w72_8, w72_9, w72_10, w72_11, w72_14, w72_15, w72_16, w72_17, w72_18, w72_19, w72_20, w72_21, w72_24, w72_25, w72_26, w72_27, w72_28, w72_29, w72_30, w72_31, w72_32, w72_35, w72_36, w72_37, w72_40, w72_41, w72_44, w72_45, w72_48, w72_51, w72_52, w72_53, w72_56, w72_57, w72_58, w72_61, w72_64, w72_65, w72_68, w72_69, w72_70, w72_71, w72_72, w72_73, w72_74, w72_75, w72_76, w72_77, w72_78, w72_81, w72_82, w72_83, w72_86, w72_89, ow72, rt72, in72, pl3_15, nf3, pl3_18, pl3_21, pl3_49, ft3_13, pl3_52, pl3_99, ow73, mx73, pl3_43, ft3_11, pl3_9, pl3_102, ow74, mx74, pl3_105, ow75, mx75, aw_st, ai_cls, ai_len, ai_p, ai_sw, ai_m, ai_c, aw_go, ai_at, ai_isI, ai_isJ, ai_isA, ai_ld, ai_1i, ai_2i, ai_2l, ai_cn, ai_j, ai_set, ai_set2, ai_nl, ai_rs, ai_this, ai_ar, ai_en, ai_sm, Value.category, hk0, hk1, ai_ft, fi0, fi1, fi2, fi3, hM, cM, show o < n by omega, show c < n by omega, hf]
  apply comeToOwe_wp hl hb ha
  intro M' h1 h2
  simp [w72_89, aw_st, ai_cls, ai_len, ai_p, ai_sw, ai_m, ai_c, aw_go, ai_at, ai_isI, ai_isJ, ai_isA, ai_ld, ai_1i, ai_2i, ai_2l, ai_cn, ai_j, ai_set, ai_set2, ai_nl, ai_rs, ai_this, ai_ar, ai_en, ai_sm, Value.category, hk0, hk1, ai_ft, fi0, fi1, fi2, fi3, rt72]
  exact hQ M' h1 h2
set_option maxHeartbeats 4000000 in
theorem liveHearing_45 {o c a b : Nat} {x : Int32} {l0 k : Nat → Nat → Int32} {nm : Nat → Nat → Int64} (h : lf M n o c (hearA l0 a b x)) (hc : ch M n c k nm) (hd : apart o c) (ha : a < 8) (hb : b < 8) (hQ : ∀ M', lf M' n o c (hearL l0 k a b x) → (∀ j, j < o ∨ o + 8 < j → M' j = M j) → Q [] n sl M') : aw ET G (d + 2) 72 45 [some (.ref o), some (.int (nI a)), some (.int (nI b)), some (.int x)] [.int (nI a), .ref c] n sl M Q := by
  have hf : ∀ Q : List Value → Nat → Nat → ai_M → Prop, aw ET G (d + 1) 73 0 [some (.ref c), some (.int (nI a))] [] n sl M Q = Q [.int (b01 (bit (k 10 0) (nI a) = 1))] n sl M := fun Q => isFake_eq hc
  have hl := h
  obtain ⟨ho, hM, h1, h2, h3, h4, h5, h6, h7, h8⟩ := h
  have hcc := hc
  obtain ⟨co, cM, -⟩ := hc
  have hb1 := ib_nI (k := b) (N := 8) hb (by omega)
  have hb2 : (nI b).toNatClampNeg = b := nI_clamp (by omega)
  by_cases hk : bit (k 10 0) (nI a) = 1
  · simp [w72_0, w72_1, w72_4, w72_5, w72_6, w72_7, w72_8, w72_9, w72_10, w72_11, w72_14, w72_15, w72_16, w72_17, w72_18, w72_19, w72_20, w72_21, w72_24, w72_25, w72_26, w72_27, w72_28, w72_29, w72_30, w72_31, w72_32, w72_35, w72_36, w72_37, w72_40, w72_41, w72_44, w72_45, w72_48, w72_51, w72_52, w72_53, w72_56, w72_57, w72_58, w72_61, w72_64, w72_65, w72_68, w72_69, w72_70, w72_71, w72_72, w72_73, w72_75, w72_76, w72_77, w72_78, w72_81, w72_82, w72_83, w72_86, w72_89, ow72, rt72, in72, pl3_15, nf3, pl3_18, pl3_21, pl3_49, ft3_13, pl3_52, pl3_99, ow73, mx73, pl3_43, ft3_11, pl3_9, pl3_102, ow74, mx74, pl3_105, ow75, mx75, aw_st, ai_cls, ai_len, ai_p, ai_sw, ai_m, ai_c, aw_go, ai_at, ai_isI, ai_isJ, ai_isA, ai_ld, ai_1i, ai_2i, ai_2l, ai_cn, ai_j, ai_set, ai_set2, ai_nl, ai_rs, ai_this, ai_ar, ai_en, ai_sm, Value.category, hk0, hk1, ai_ft, fi0, fi1, fi2, fi3, hM, cM, show o < n by omega, show c < n by omega, hf, hk, b01]
    apply liveHearing_74 (nm := nm) (l := vf_upd (hearA l0 a b x) 11 (fun _ => l0 11 0 + x)) _ _ hd ha hb
    · intro M' g1 g2
      apply hQ M'
      · simpa [hearL, hearB, hk, hearA, vf_upd] using g1
      · intro j hj
        rw [g2 j (by omega)]
        simp [va_up, show ¬ j = o by omega]
    · simp [lf, va_up, vf_upd, hearA] at hM h1 h2 h3 h4 h5 h6 h7 h8 ⊢
      simp [hM, h1, h2, h3, h4, h5, h6, h7, h8, ho]
    · exact ch_kept hcc (fun j j1 j2 => by unfold apart at hd; simp [va_up, show ¬ j = o by omega])
  · simp [w72_0, w72_1, w72_4, w72_5, w72_6, w72_7, w72_8, w72_9, w72_10, w72_11, w72_14, w72_15, w72_16, w72_17, w72_18, w72_19, w72_20, w72_21, w72_24, w72_25, w72_26, w72_27, w72_28, w72_29, w72_30, w72_31, w72_32, w72_35, w72_36, w72_37, w72_40, w72_41, w72_44, w72_45, w72_48, w72_51, w72_52, w72_53, w72_56, w72_57, w72_58, w72_61, w72_64, w72_65, w72_68, w72_69, w72_70, w72_71, w72_72, w72_73, w72_75, w72_76, w72_77, w72_78, w72_81, w72_82, w72_83, w72_86, w72_89, ow72, rt72, in72, pl3_15, nf3, pl3_18, pl3_21, pl3_49, ft3_13, pl3_52, pl3_99, ow73, mx73, pl3_43, ft3_11, pl3_9, pl3_102, ow74, mx74, pl3_105, ow75, mx75, aw_st, ai_cls, ai_len, ai_p, ai_sw, ai_m, ai_c, aw_go, ai_at, ai_isI, ai_isJ, ai_isA, ai_ld, ai_1i, ai_2i, ai_2l, ai_cn, ai_j, ai_set, ai_set2, ai_nl, ai_rs, ai_this, ai_ar, ai_en, ai_sm, Value.category, hk0, hk1, ai_ft, fi0, fi1, fi2, fi3, hM, cM, h1, show o < n by omega, show o + 1 < n by omega, show c < n by omega, hf, hk, b01, hb1, hb2]
    apply liveHearing_74 (nm := nm) (l := vf_upd (hearA l0 a b x) 1 (upd (l0 1) b (l0 1 b - x))) _ _ hd ha hb
    · intro M' g1 g2
      apply hQ M'
      · simpa [hearL, hearB, hk, hearA, vf_upd] using g1
      · intro j hj
        rw [g2 j (by omega)]
        simp [va_up, show ¬ j = o + 1 by omega]
    · simp [lf, va_up, vf_upd, hearA] at hM h1 h2 h3 h4 h5 h6 h7 h8 ⊢
      simp [hM, h1, h2, h3, h4, h5, h6, h7, h8, ho]
    · exact ch_kept hcc (fun j j1 j2 => by unfold apart at hd; simp [va_up, show ¬ j = o + 1 by omega])
set_option maxHeartbeats 4000000 in
theorem liveHearing_wp {o c : Nat} {l k : Nat → Nat → Int32} {nm : Nat → Nat → Int64} (h : lf M n o c l) (hc : ch M n c k nm) (hd : apart o c) {a b : Nat} (ha : a < 8) (hb : b < 8) {x : Int32} (hQ : ∀ M', lf M' n o c (hearL l k a b x) → (∀ j, j < o ∨ o + 8 < j → M' j = M j) → Q [] n sl M') : aw ET G (d + 2) 72 0 [some (.ref o), some (.int (nI a)), some (.int (nI b)), some (.int x)] [] n sl M Q := by
  have hl := h
  obtain ⟨ho, hM, h1, h2, h3, h4, h5, h6, h7, h8⟩ := h
  have hcc := hc
  obtain ⟨co, cM, -⟩ := hc
  have ha1 := ib_nI (k := a) (N := 8) ha (by omega)
  have ha2 : (nI a).toNatClampNeg = a := nI_clamp (by omega)
  have hb1 := ib_nI (k := b) (N := 8) hb (by omega)
  have hb2 : (nI b).toNatClampNeg = b := nI_clamp (by omega)
  simp [w72_0, w72_1, w72_4, w72_5, w72_6, w72_7, w72_8, w72_9, w72_10, w72_11, w72_14, w72_15, w72_16, w72_17, w72_18, w72_19, w72_20, w72_21, w72_24, w72_25, w72_26, w72_27, w72_28, w72_29, w72_30, w72_31, w72_32, w72_35, w72_36, w72_37, w72_40, w72_41, w72_44, w72_48, w72_51, w72_52, w72_53, w72_56, w72_57, w72_58, w72_61, w72_64, w72_65, w72_68, w72_69, w72_70, w72_71, w72_72, w72_73, w72_74, w72_75, w72_76, w72_77, w72_78, w72_81, w72_82, w72_83, w72_86, w72_89, ow72, rt72, in72, pl3_15, nf3, pl3_18, pl3_21, pl3_49, ft3_13, pl3_52, pl3_99, ow73, mx73, pl3_43, ft3_11, pl3_9, pl3_102, ow74, mx74, pl3_105, ow75, mx75, aw_st, ai_cls, ai_len, ai_p, ai_sw, ai_m, ai_c, aw_go, ai_at, ai_isI, ai_isJ, ai_isA, ai_ld, ai_1i, ai_2i, ai_2l, ai_cn, ai_j, ai_set, ai_set2, ai_nl, ai_rs, ai_this, ai_ar, ai_en, ai_sm, Value.category, hk0, hk1, ai_ft, fi0, fi1, fi2, fi3, hM, cM, h2, h3, h4, show o < n by omega, show o + 2 < n by omega, show o + 3 < n by omega, show o + 4 < n by omega, show c < n by omega, ha1, ha2, hb1, hb2, va_up]
  apply liveHearing_45 (nm := nm) (l0 := l) _ _ hd ha hb
  · intro M' g1 g2
    apply hQ M' g1
    intro j hj
    rw [g2 j hj]
    simp [va_up, show ¬ j = o by omega, show ¬ j = o + 2 by omega, show ¬ j = o + 3 by omega, show ¬ j = o + 4 by omega]
  · simp [lf, va_up, vf_upd, hearA, hM, h1, h2, h3, h4, h5, h6, h7, h8, ho]
  · exact ch_kept hcc (fun j j1 j2 => by unfold apart at hd; simp [va_up, show ¬ j = o by omega, show ¬ j = o + 2 by omega, show ¬ j = o + 3 by omega, show ¬ j = o + 4 by omega])
end LII
