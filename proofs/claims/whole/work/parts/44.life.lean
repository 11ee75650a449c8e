/-! LIFE, V: days, telling, sums -/
section LIJ
variable {G : ai_G} {d n sl : Nat} {M : ai_M} {Q : List Value → Nat → Nat → ai_M → Prop}
/-- one PERSON at a DAY's end -/
def dayA (l k : Nat → Nat → Int32) (p : Nat) : Nat → Nat → Int32 := if k 12 0 * k 1 p < rsum (l 5) (p * 8) 8 0 then vf_upd l 9 (fun _ => l 9 0 ||| 1 <<< (nI p &&& 31)) else l
def dayS (l k : Nat → Nat → Int32) (p : Nat) : Nat → Nat → Int32 := vf_upd (vf_upd (dayA l k p) 2 (upd (l 2) p (k 1 p))) 1 (upd (l 1) p (if l 1 p + k 2 p < 999 then l 1 p + k 2 p else 999))
def dayR (k : Nat → Nat → Int32) : Nat → Nat → (Nat → Nat → Int32) → (Nat → Nat → Int32)
  | _, 0, l => vf_upd l 10 (fun _ => l 10 0 + 1)
  | p, r + 1, l => dayR k (p + 1) r (dayS l k p)
set_option maxHeartbeats 4000000 in
theorem goDay_33 {o c : Nat} {l l0 k : Nat → Nat → Int32} {nm : Nat → Nat → Int64} {p : Nat} (h : lf M n o c (dayA l k p)) (hc : ch M n c k nm) (hd : apart o c) (hp : p < 8) (hQ : ∀ M', lf M' n o c (dayS l k p) → (∀ j, j < o ∨ o + 8 < j → M' j = M j) → aw ET G (d + 3) 86 2 [some (.ref o), some (.int (nI (p + 1)))] [] n sl M' Q) : aw ET G (d + 3) 86 33 [some (.ref o), some (.int (nI p))] [] n sl M Q := by
  have hl := h
  obtain ⟨ho, hM, h1, h2, h3, h4, h5, h6, h7, h8⟩ := h
  obtain ⟨co, cM, c1, c2, c3, c4, c5, c6, c7⟩ := hc
  have hp1 := ib_nI (k := p) (N := 8) hp (by omega)
  have hp2 : (nI p).toNatClampNeg = p := nI_clamp (by omega)
  have e1 : dayA l k p 1 = l 1 := by unfold dayA; split <;> simp [vf_upd]
  have e2 : dayA l k p 2 = l 2 := by unfold dayA; split <;> simp [vf_upd]
  rw [e1] at h1
  rw [e2] at h2
  unfold apart at hd
  simp [w86_0, w86_1, w86_3, w86_4, w86_7, w86_10, w86_13, w86_14, w86_15, w86_18, w86_21, w86_22, w86_23, w86_26, w86_27, w86_28, w86_29, w86_30, w86_33, w86_34, w86_37, w86_38, w86_39, w86_42, w86_45, w86_46, w86_47, w86_48, w86_49, w86_52, w86_53, w86_56, w86_57, w86_60, w86_61, w86_62, w86_63, w86_66, w86_69, w86_70, w86_71, w86_72, w86_75, w86_76, w86_79, w86_82, w86_83, w86_84, w86_87, w86_88, w86_89, w86_92, ow86, rt86, in86, pl3_52, nf3, pl3_119, nf1, pl3_122, ow87, mx87, pl3_36, ft3_9, pl3_15, pl3_89, pl3_9, pl3_125, pl3_92, pl3_40, ft3_10, aw_st, ai_cls, ai_len, ai_p, ai_sw, ai_m, ai_c, aw_go, ai_at, ai_isI, ai_isJ, ai_isA, ai_ld, ai_1i, ai_2i, ai_2l, ai_cn, ai_j, ai_set, ai_set2, ai_nl, ai_rs, ai_this, ai_ar, ai_en, ai_sm, Value.category, hk0, hk1, ai_ft, fi0, fi1, fi2, fi3, hM, cM, h1, h2, c2, c3, show o < n by omega, show o + 1 < n by omega, show o + 2 < n by omega, show c < n by omega, show c + 2 < n by omega, show c + 3 < n by omega, hp1, hp2, va_up, show ¬ c = o + 2 by omega, show ¬ c + 3 = o + 2 by omega, show ¬ c + 2 = o + 2 by omega, nI_1]
  apply hQ
  · simp [lf, va_up, dayS, vf_upd, hM, h1, h2, h3, h4, h5, h6, h7, h8, ho]
  · intro j hj
    simp [va_up, show ¬ j = o + 1 by omega, show ¬ j = o + 2 by omega]
set_option maxHeartbeats 4000000 in
theorem goDay_loop {o c : Nat} {k : Nat → Nat → Int32} {nm : Nat → Nat → Int64} {P : Nat} (hP : P ≤ 8) (hk : k 7 0 = nI P) (hd : apart o c) : ∀ (r p : Nat) (M : ai_M) (l : Nat → Nat → Int32), p + r = P → lf M n o c l → ch M n c k nm → (∀ M', lf M' n o c (dayR k p r l) → (∀ j, j < o ∨ o + 8 < j → M' j = M j) → Q [] n sl M') → aw ET G (d + 3) 86 2 [some (.ref o), some (.int (nI p))] [] n sl M Q := by
  intro r
  induction r with
  | zero =>
    intro p M l hp h hc hQ
    have : p = P := by omega
    subst this
    have hl := h
    obtain ⟨ho, hM, h1, h2, h3, h4, h5, h6, h7, h8⟩ := h
    obtain ⟨co, cM, -⟩ := hc
    simp [w86_0, w86_1, w86_2, w86_3, w86_4, w86_7, w86_10, w86_13, w86_14, w86_15, w86_18, w86_21, w86_22, w86_23, w86_26, w86_27, w86_28, w86_29, w86_30, w86_33, w86_34, w86_37, w86_38, w86_39, w86_42, w86_45, w86_46, w86_47, w86_48, w86_49, w86_52, w86_53, w86_56, w86_57, w86_60, w86_61, w86_62, w86_63, w86_66, w86_69, w86_70, w86_71, w86_72, w86_75, w86_76, w86_79, w86_82, w86_83, w86_84, w86_87, w86_88, w86_89, w86_92, ow86, rt86, in86, pl3_52, nf3, pl3_119, nf1, pl3_122, ow87, mx87, pl3_36, ft3_9, pl3_15, pl3_89, pl3_9, pl3_125, pl3_92, pl3_40, ft3_10, aw_st, ai_cls, ai_len, ai_p, ai_sw, ai_m, ai_c, aw_go, ai_at, ai_isI, ai_isJ, ai_isA, ai_ld, ai_1i, ai_2i, ai_2l, ai_cn, ai_j, ai_set, ai_set2, ai_nl, ai_rs, ai_this, ai_ar, ai_en, ai_sm, Value.category, hk0, hk1, ai_ft, fi0, fi1, fi2, fi3, hM, cM, show o < n by omega, show c < n by omega, hk, va_up]
    apply hQ
    · simp [lf, va_up, dayR, vf_upd, hM, h1, h2, h3, h4, h5, h6, h7, h8, ho]
    · intro j hj
      simp [va_up, show ¬ j = o by omega]
  | succ r ih =>
    intro p M l hp h hc hQ
    have hlt : ¬ nI P ≤ nI p := by rw [nI_leI (by omega) (by omega)]; omega
    have hf : ∀ Q : List Value → Nat → Nat → ai_M → Prop, aw ET G (d + 2) 87 0 [some (.ref o), some (.int (nI p))] [] n sl M Q = Q [.int (b01 (k 12 0 * k 1 p < rsum (l 5) (p * 8) 8 0))] n sl M := fun Q => owesTooMuch_eq h hc (by omega)
    have hl := h
    have hcc := hc
    obtain ⟨ho, hM, h1, h2, h3, h4, h5, h6, h7, h8⟩ := h
    obtain ⟨co, cM, -⟩ := hc
    have ap := hd
    unfold apart at ap
    rw [w86_2]
    by_cases hy : k 12 0 * k 1 p < rsum (l 5) (p * 8) 8 0
    · simp [w86_0, w86_1, w86_3, w86_4, w86_7, w86_10, w86_13, w86_14, w86_15, w86_18, w86_21, w86_22, w86_23, w86_26, w86_27, w86_28, w86_29, w86_30, w86_34, w86_37, w86_38, w86_39, w86_42, w86_45, w86_46, w86_47, w86_48, w86_49, w86_52, w86_53, w86_56, w86_57, w86_60, w86_61, w86_62, w86_63, w86_66, w86_69, w86_70, w86_71, w86_72, w86_75, w86_76, w86_79, w86_82, w86_83, w86_84, w86_87, w86_88, w86_89, w86_92, ow86, rt86, in86, pl3_52, nf3, pl3_119, nf1, pl3_122, ow87, mx87, pl3_36, ft3_9, pl3_15, pl3_89, pl3_9, pl3_125, pl3_92, pl3_40, ft3_10, aw_st, ai_cls, ai_len, ai_p, ai_sw, ai_m, ai_c, aw_go, ai_at, ai_isI, ai_isJ, ai_isA, ai_ld, ai_1i, ai_2i, ai_2l, ai_cn, ai_j, ai_set, ai_set2, ai_nl, ai_rs, ai_this, ai_ar, ai_en, ai_sm, Value.category, hk0, hk1, ai_ft, fi0, fi1, fi2, fi3, hM, cM, show o < n by omega, show c < n by omega, hk, hlt, hf, hy, b01]
      apply goDay_33 (l := l) (l0 := l) (nm := nm) _ _ hd (by omega)
      · intro M' g1 g2
        apply ih (p + 1) M' _ (by omega) g1
        · exact ch_kept hcc (fun j j1 j2 => by rw [g2 j (by omega)]; simp [va_up, show ¬ j = o by omega])
        · intro M2 g3 g4
          apply hQ M2 g3
          intro j hj
          rw [g4 j hj, g2 j hj]
          simp [va_up, show ¬ j = o by omega]
      · simp [lf, va_up, dayA, hy, vf_upd, hM, h1, h2, h3, h4, h5, h6, h7, h8, ho]
      · exact ch_kept hcc (fun j j1 j2 => by simp [va_up, show ¬ j = o by omega])
    · simp [w86_0, w86_1, w86_3, w86_4, w86_7, w86_10, w86_13, w86_14, w86_15, w86_18, w86_21, w86_22, w86_23, w86_26, w86_27, w86_28, w86_29, w86_30, w86_34, w86_37, w86_38, w86_39, w86_42, w86_45, w86_46, w86_47, w86_48, w86_49, w86_52, w86_53, w86_56, w86_57, w86_60, w86_61, w86_62, w86_63, w86_66, w86_69, w86_70, w86_71, w86_72, w86_75, w86_76, w86_79, w86_82, w86_83, w86_84, w86_87, w86_88, w86_89, w86_92, ow86, rt86, in86, pl3_52, nf3, pl3_119, nf1, pl3_122, ow87, mx87, pl3_36, ft3_9, pl3_15, pl3_89, pl3_9, pl3_125, pl3_92, pl3_40, ft3_10, aw_st, ai_cls, ai_len, ai_p, ai_sw, ai_m, ai_c, aw_go, ai_at, ai_isI, ai_isJ, ai_isA, ai_ld, ai_1i, ai_2i, ai_2l, ai_cn, ai_j, ai_set, ai_set2, ai_nl, ai_rs, ai_this, ai_ar, ai_en, ai_sm, Value.category, hk0, hk1, ai_ft, fi0, fi1, fi2, fi3, hM, cM, show o < n by omega, show c < n by omega, hk, hlt, hf, hy, b01]
      apply goDay_33 (l := l) (l0 := l) (nm := nm) _ hcc hd (by omega)
      · intro M' g1 g2
        apply ih (p + 1) M' _ (by omega) g1
        · exact ch_kept hcc (fun j j1 j2 => by rw [g2 j (by omega)])
        · intro M2 g3 g4
          apply hQ M2 g3
          intro j hj
          rw [g4 j hj, g2 j hj]
      · simpa [dayA, hy] using hl
theorem goDay_wp {o c : Nat} {l k : Nat → Nat → Int32} {nm : Nat → Nat → Int64} {P : Nat} (hP : P ≤ 8) (hk : k 7 0 = nI P) (h : lf M n o c l) (hc : ch M n c k nm) (hd : apart o c) (hQ : ∀ M', lf M' n o c (dayR k 0 P l) → (∀ j, j < o ∨ o + 8 < j → M' j = M j) → Q [] n sl M') : aw ET G (d + 3) 86 0 [some (.ref o), none] [] n sl M Q := by
  simp [w86_0, w86_1, aw_st, ai_cls, ai_len, ai_p, ai_sw, ai_m, ai_c, aw_go, ai_at, ai_isI, ai_isJ, ai_isA, ai_ld, ai_1i, ai_2i, ai_2l, ai_cn, ai_j, ai_set, ai_set2, ai_nl, ai_rs, ai_this, ai_ar, ai_en, ai_sm, Value.category, hk0, hk1, ai_ft, fi0, fi1, fi2, fi3]
  exact goDay_loop hP hk hd P 0 M l (by omega) h hc hQ
/-- days -/
def daysR (k : Nat → Nat → Int32) (P : Nat) : Nat → (Nat → Nat → Int32) → (Nat → Nat → Int32)
  | 0, l => l
  | r + 1, l => daysR k P r (dayR k 0 P l)
set_option maxHeartbeats 4000000 in
theorem goDays_loop {o c : Nat} {k : Nat → Nat → Int32} {nm : Nat → Nat → Int64} {P : Nat} (hP : P ≤ 8) (hk : k 7 0 = nI P) (hd : apart o c) {N : Nat} (hN : N < 1000) : ∀ (r i : Nat) (M : ai_M) (l : Nat → Nat → Int32), i + r = N → lf M n o c l → ch M n c k nm → (∀ M', lf M' n o c (daysR k P r l) → (∀ j, j < o ∨ o + 8 < j → M' j = M j) → Q [] n sl M') → aw ET G (d + 4) 85 2 [some (.ref o), some (.int (nI N)), some (.int (nI i))] [] n sl M Q := by
  intro r
  induction r with
  | zero =>
    intro i M l hi h hc hQ
    have : i = N := by omega
    subst this
    simp [w85_0, w85_1, w85_2, w85_3, w85_4, w85_7, w85_8, w85_11, w85_14, w85_17, ow85, rt85, in85, pl3_116, ow86, mx86, aw_st, ai_cls, ai_len, ai_p, ai_sw, ai_m, ai_c, aw_go, ai_at, ai_isI, ai_isJ, ai_isA, ai_ld, ai_1i, ai_2i, ai_2l, ai_cn, ai_j, ai_set, ai_set2, ai_nl, ai_rs, ai_this, ai_ar, ai_en, ai_sm, Value.category, hk0, hk1, ai_ft, fi0, fi1, fi2, fi3]
    exact hQ M h (fun _ _ => rfl)
  | succ r ih =>
    intro i M l hi h hc hQ
    have hlt : ¬ nI N ≤ nI i := by rw [nI_leI (by omega) (by omega)]; omega
    have ho := h.1
    have hM := h.2.1
    have ap := hd
    unfold apart at ap
    rw [w85_2]
    simp [w85_0, w85_1, w85_3, w85_4, w85_7, w85_8, w85_11, w85_14, w85_17, ow85, rt85, in85, pl3_116, ow86, mx86, aw_st, ai_cls, ai_len, ai_p, ai_sw, ai_m, ai_c, aw_go, ai_at, ai_isI, ai_isJ, ai_isA, ai_ld, ai_1i, ai_2i, ai_2l, ai_cn, ai_j, ai_set, ai_set2, ai_nl, ai_rs, ai_this, ai_ar, ai_en, ai_sm, Value.category, hk0, hk1, ai_ft, fi0, fi1, fi2, fi3, hlt, hM, show o < n by omega]
    apply goDay_wp hP hk h hc hd
    intro M' g1 g2
    simp [w85_11, w85_14, aw_st, ai_cls, ai_len, ai_p, ai_sw, ai_m, ai_c, aw_go, ai_at, ai_isI, ai_isJ, ai_isA, ai_ld, ai_1i, ai_2i, ai_2l, ai_cn, ai_j, ai_set, ai_set2, ai_nl, ai_rs, ai_this, ai_ar, ai_en, ai_sm, Value.category, hk0, hk1, ai_ft, fi0, fi1, fi2, fi3, nI_1]
    apply ih (i + 1) M' _ (by omega) g1
    · exact ch_kept hc (fun j j1 j2 => g2 j (by omega))
    · intro M2 g3 g4
      apply hQ M2 g3
      intro j hj
      rw [g4 j hj, g2 j hj]
theorem goDays_wp {o c : Nat} {l k : Nat → Nat → Int32} {nm : Nat → Nat → Int64} {P : Nat} (hP : P ≤ 8) (hk : k 7 0 = nI P) (h : lf M n o c l) (hc : ch M n c k nm) (hd : apart o c) {N : Nat} (hN : N < 1000) (hQ : ∀ M', lf M' n o c (daysR k P N l) → (∀ j, j < o ∨ o + 8 < j → M' j = M j) → Q [] n sl M') : aw ET G (d + 4) 85 0 [some (.ref o), some (.int (nI N)), none] [] n sl M Q := by
  simp [w85_0, w85_1, aw_st, ai_cls, ai_len, ai_p, ai_sw, ai_m, ai_c, aw_go, ai_at, ai_isI, ai_isJ, ai_isA, ai_ld, ai_1i, ai_2i, ai_2l, ai_cn, ai_j, ai_set, ai_set2, ai_nl, ai_rs, ai_this, ai_ar, ai_en, ai_sm, Value.category, hk0, hk1, ai_ft, fi0, fi1, fi2, fi3]
  exact goDays_loop hP hk hd hN N 0 M l (by omega) h hc hQ
end LIJ
