/-! TOKENS: the class's Reader, II -/
section TKD
variable {G : ai_G} {d sl : Nat} {Q : List Value → Nat → Nat → ai_M → Prop} {Y : mY} {X : mX} {t : Nat → Nat} {n lim i p : Nat}
theorem cAl_0 : ∀ k, cAl t p k = 0 → ∀ j, j < k → ¬ isAl (t (p + j)) = true := by
  intro k
  induction k with
  | zero => intro _ j hj; omega
  | succ k ih =>
    intro h j hj
    unfold cAl at h
    split at h
    · omega
    · rename_i e
      by_cases c : j = k
      · subst c; exact e
      · exact ih (by omega) j (by omega)
/-- what a Reader holds of a run -/
def RN (t : Nat → Nat) (p e : Nat) (f0 f : Nat → Int32) (g0 g : Nat → Int64) : Prop := f 3 = nI (p + e) ∧ f 4 = nI (rK (cAl t p e) (cDg t p e)) ∧ (∀ j, ¬ j = 3 → ¬ j = 4 → ¬ j = 6 → f j = f0 j) ∧ (rK (cAl t p e) (cDg t p e) = 2 → g 7 = lN (v5 (fw t p e))) ∧ (rK (cAl t p e) (cDg t p e) = 3 → f 6 = nI (wr 10 48 (fw t p e).reverse)) ∧ (∀ j, ¬ j = 7 → g j = g0 j)
set_option maxHeartbeats 8000000 in
theorem run_wp {f : Nat → Int32} {g : Nat → Int64} (h0 : f 0 = nI 1) (h1 : f 1 = nI n) (h5 : f 5 = nI p) (hT : TB8 (X 1) t) (hn : n ≤ 940) (hp : p ≤ n) (hQ : ∀ f' g', RN t p (rnR t (n - p) p) f f' g g' → Q [] 231 sl (mem (va_up X 2 f') (va_up Y 2 g'))) : aw ET G d 23 0 [some (.ref 2), none, none, none, none, none, none, none] [] 231 sl (mem (va_up X 2 f) (va_up Y 2 g)) Q := by
  have hle := rnR_le t (n - p) p
  have hsum := cAD t p (rnR t (n - p) p)
  have hAD := fun k hk => rn_AD t (n - p) p k hk
  have hl := run_loop (G := G) (d := d) (sl := sl) (Q := Q) (Y := va_up Y 2 g) (X := va_up X 2 f) (t := t) (n := n) (p := p) (by simp [va_up, h0]) (by simp [va_up, h1]) (by simpa [va_up] using hT) hn (fun f' z a b => by
    generalize rnR t (n - p) p = e at hle hsum hQ hAD a ⊢
    have b' : ∀ j, ¬ j = 3 → f' j = f j := fun j hj => by have := b j hj; simpa [va_up] using this
    by_cases c1 : cDg t p e = 0
    · by_cases c2 : cAl t p e ≤ 7
      · have hk : rK (cAl t p e) (cDg t p e) = 2 := by unfold rK; rw [if_pos ⟨c1, c2⟩]
        have := hQ (upd f' 4 (nI 2)) (vp_updL g 7 (F5 t p e)) ⟨by simp [upd, a], by rw [hk]; simp [upd], fun j j1 j2 j3 => by rw [pk_un j2]; exact b' j j1, fun _ => by rw [pk_uLs]; exact (F5_nat e c1 (by omega)).1, fun h => by rw [hk] at h; omega, fun j hj => by rw [pk_uLn hj]⟩
        simp (disch := omega) [w23_0, w23_1, w23_2, w23_3, w23_4, w23_5, w23_6, w23_7, w23_10, x23_11_2, x23_14, w23_21, w23_25, x23_26_2, w23_29, w23_32, x23_33_2, w23_36, w23_38, w23_39, w23_42, w23_43, w23_45, w23_47, w23_49, w23_52, w23_54, w23_56, w23_59, w23_62, w23_63, w23_64, w23_65, w23_67, w23_69, w23_70, w23_71, w23_72, w23_73, w23_74, w23_75, w23_78, w23_80, w23_82, w23_85, w23_87, w23_89, w23_92, w23_95, w23_97, w23_99, w23_100, w23_102, w23_103, w23_105, w23_106, w23_108, w23_111, w23_112, x23_114, w23_117, w23_120, w23_123, w23_126, w23_127, w23_130, w23_131, w23_133, w23_136, w23_137, x23_138, w23_141, w23_142, x23_143, w23_146, w23_149, w23_150, w23_153, w23_154, w23_155, w23_158, w23_159, x23_160, w23_163, w23_164, x23_166, w23_169, w23_172, w23_173, x23_174, w23_177, rt23, aw_st, ai_cls, ai_len, ai_p, ai_sw, ai_m, ai_c, ai_at, ai_isI, ai_isJ, ai_isA, ai_ld, ai_1i, ai_2i, ai_2l, ai_cn, ai_j, ai_set, ai_set2, ai_nl, ai_rs, ai_sm, Value.category, hk0, hk1, lits, litb, litm, litm2, List.getElem?_cons_zero, List.getElem?_cons_succ, or_n0, bit_r, fi0, fi1, fi2, fi3, nI_toInt, nI_add, pk_mul, nI_leI, nI_ltI, nI_eq, pk_sub, ib_nI, nI_clamp, va_up_self, va_up_ne, va_up_up, va_up_comm, pk_us, pk_un, upd_up, updL_up, pk_uLs, pk_uLn, b01_1, b01_0, b01_1s, b01_0s, or_b, c1, show ¬ 7 < cAl t p e by omega]
        exact this
      · by_cases c3 : cAl t p e = 0
        · omega
        · have hk : rK (cAl t p e) (cDg t p e) = 1 := by unfold rK; rw [if_neg (by omega), if_neg (by omega)]
          have := hQ (upd f' 4 (nI 1)) g ⟨by simp [upd, a], by rw [hk]; simp [upd], fun j j1 j2 j3 => by rw [pk_un j2]; exact b' j j1, fun h => by rw [hk] at h; omega, fun h => by rw [hk] at h; omega, fun j hj => rfl⟩
          simp (disch := omega) [w23_0, w23_1, w23_2, w23_3, w23_4, w23_5, w23_6, w23_7, w23_10, x23_11_2, x23_14, w23_21, w23_25, x23_26_2, w23_29, w23_32, x23_33_2, w23_36, w23_38, w23_39, w23_42, w23_43, w23_45, w23_47, w23_49, w23_52, w23_54, w23_56, w23_59, w23_62, w23_63, w23_64, w23_65, w23_67, w23_69, w23_70, w23_71, w23_72, w23_73, w23_74, w23_75, w23_78, w23_80, w23_82, w23_85, w23_87, w23_89, w23_92, w23_95, w23_97, w23_99, w23_100, w23_102, w23_103, w23_105, w23_106, w23_108, w23_111, w23_112, x23_114, w23_117, w23_120, w23_123, w23_126, w23_127, w23_130, w23_131, w23_133, w23_136, w23_137, x23_138, w23_141, w23_142, x23_143, w23_146, w23_149, w23_150, w23_153, w23_154, w23_155, w23_158, w23_159, x23_160, w23_163, w23_164, x23_166, w23_169, w23_172, w23_173, x23_174, w23_177, rt23, aw_st, ai_cls, ai_len, ai_p, ai_sw, ai_m, ai_c, ai_at, ai_isI, ai_isJ, ai_isA, ai_ld, ai_1i, ai_2i, ai_2l, ai_cn, ai_j, ai_set, ai_set2, ai_nl, ai_rs, ai_sm, Value.category, hk0, hk1, lits, litb, litm, litm2, List.getElem?_cons_zero, List.getElem?_cons_succ, or_n0, bit_r, fi0, fi1, fi2, fi3, nI_toInt, nI_add, pk_mul, nI_leI, nI_ltI, nI_eq, pk_sub, ib_nI, nI_clamp, va_up_self, va_up_ne, va_up_up, va_up_comm, pk_us, pk_un, upd_up, updL_up, pk_uLs, pk_uLn, b01_1, b01_0, b01_1s, b01_0s, or_b, c1, c3, show 7 < cAl t p e by omega]
          exact this
    · by_cases c3 : cAl t p e = 0
      · by_cases c4 : cDg t p e ≤ 3
        · have hk : rK (cAl t p e) (cDg t p e) = 3 := by unfold rK; rw [if_neg (by omega), if_pos ⟨c3, c4⟩]
          have hd : ∀ j, j < e → 48 ≤ t (p + j) ∧ t (p + j) ≤ 57 := by
            intro j hj
            have h1 := cAl_0 e c3 j hj
            have h2 := hAD j hj
            unfold isAD at h2
            rw [Bool.or_eq_true] at h2
            rcases h2 with h2 | h2
            · exact absurd h2 h1
            · unfold isDg at h2; simpa using h2
          have := hQ (upd (upd f' 4 (nI 3)) 6 (F10 t p e)) g ⟨by simp [upd, a], by rw [hk]; simp [upd], fun j j1 j2 j3 => by rw [pk_un j3, pk_un j2]; exact b' j j1, fun h => by rw [hk] at h; omega, fun _ => by rw [pk_us]; exact (F10_nat e c3 (by omega) hd).1, fun j hj => rfl⟩
          simp (disch := omega) [w23_0, w23_1, w23_2, w23_3, w23_4, w23_5, w23_6, w23_7, w23_10, x23_11_2, x23_14, w23_21, w23_25, x23_26_2, w23_29, w23_32, x23_33_2, w23_36, w23_38, w23_39, w23_42, w23_43, w23_45, w23_47, w23_49, w23_52, w23_54, w23_56, w23_59, w23_62, w23_63, w23_64, w23_65, w23_67, w23_69, w23_70, w23_71, w23_72, w23_73, w23_74, w23_75, w23_78, w23_80, w23_82, w23_85, w23_87, w23_89, w23_92, w23_95, w23_97, w23_99, w23_100, w23_102, w23_103, w23_105, w23_106, w23_108, w23_111, w23_112, x23_114, w23_117, w23_120, w23_123, w23_126, w23_127, w23_130, w23_131, w23_133, w23_136, w23_137, x23_138, w23_141, w23_142, x23_143, w23_146, w23_149, w23_150, w23_153, w23_154, w23_155, w23_158, w23_159, x23_160, w23_163, w23_164, x23_166, w23_169, w23_172, w23_173, x23_174, w23_177, rt23, aw_st, ai_cls, ai_len, ai_p, ai_sw, ai_m, ai_c, ai_at, ai_isI, ai_isJ, ai_isA, ai_ld, ai_1i, ai_2i, ai_2l, ai_cn, ai_j, ai_set, ai_set2, ai_nl, ai_rs, ai_sm, Value.category, hk0, hk1, lits, litb, litm, litm2, List.getElem?_cons_zero, List.getElem?_cons_succ, or_n0, bit_r, fi0, fi1, fi2, fi3, nI_toInt, nI_add, pk_mul, nI_leI, nI_ltI, nI_eq, pk_sub, ib_nI, nI_clamp, va_up_self, va_up_ne, va_up_up, va_up_comm, pk_us, pk_un, upd_up, updL_up, pk_uLs, pk_uLn, b01_1, b01_0, b01_1s, b01_0s, or_b, c1, c3, show ¬ 3 < cDg t p e by omega]
          exact this
        · have hk : rK (cAl t p e) (cDg t p e) = 1 := by unfold rK; rw [if_neg (by omega), if_neg (by omega)]
          have := hQ (upd f' 4 (nI 1)) g ⟨by simp [upd, a], by rw [hk]; simp [upd], fun j j1 j2 j3 => by rw [pk_un j2]; exact b' j j1, fun h => by rw [hk] at h; omega, fun h => by rw [hk] at h; omega, fun j hj => rfl⟩
          simp (disch := omega) [w23_0, w23_1, w23_2, w23_3, w23_4, w23_5, w23_6, w23_7, w23_10, x23_11_2, x23_14, w23_21, w23_25, x23_26_2, w23_29, w23_32, x23_33_2, w23_36, w23_38, w23_39, w23_42, w23_43, w23_45, w23_47, w23_49, w23_52, w23_54, w23_56, w23_59, w23_62, w23_63, w23_64, w23_65, w23_67, w23_69, w23_70, w23_71, w23_72, w23_73, w23_74, w23_75, w23_78, w23_80, w23_82, w23_85, w23_87, w23_89, w23_92, w23_95, w23_97, w23_99, w23_100, w23_102, w23_103, w23_105, w23_106, w23_108, w23_111, w23_112, x23_114, w23_117, w23_120, w23_123, w23_126, w23_127, w23_130, w23_131, w23_133, w23_136, w23_137, x23_138, w23_141, w23_142, x23_143, w23_146, w23_149, w23_150, w23_153, w23_154, w23_155, w23_158, w23_159, x23_160, w23_163, w23_164, x23_166, w23_169, w23_172, w23_173, x23_174, w23_177, rt23, aw_st, ai_cls, ai_len, ai_p, ai_sw, ai_m, ai_c, ai_at, ai_isI, ai_isJ, ai_isA, ai_ld, ai_1i, ai_2i, ai_2l, ai_cn, ai_j, ai_set, ai_set2, ai_nl, ai_rs, ai_sm, Value.category, hk0, hk1, lits, litb, litm, litm2, List.getElem?_cons_zero, List.getElem?_cons_succ, or_n0, bit_r, fi0, fi1, fi2, fi3, nI_toInt, nI_add, pk_mul, nI_leI, nI_ltI, nI_eq, pk_sub, ib_nI, nI_clamp, va_up_self, va_up_ne, va_up_up, va_up_comm, pk_us, pk_un, upd_up, updL_up, pk_uLs, pk_uLn, b01_1, b01_0, b01_1s, b01_0s, or_b, c1, c3, show 3 < cDg t p e by omega]
          exact this
      · have hk : rK (cAl t p e) (cDg t p e) = 1 := by unfold rK; rw [if_neg (by omega), if_neg (by omega)]
        have := hQ (upd f' 4 (nI 1)) g ⟨by simp [upd, a], by rw [hk]; simp [upd], fun j j1 j2 j3 => by rw [pk_un j2]; exact b' j j1, fun h => by rw [hk] at h; omega, fun h => by rw [hk] at h; omega, fun j hj => rfl⟩
        simp (disch := omega) [w23_0, w23_1, w23_2, w23_3, w23_4, w23_5, w23_6, w23_7, w23_10, x23_11_2, x23_14, w23_21, w23_25, x23_26_2, w23_29, w23_32, x23_33_2, w23_36, w23_38, w23_39, w23_42, w23_43, w23_45, w23_47, w23_49, w23_52, w23_54, w23_56, w23_59, w23_62, w23_63, w23_64, w23_65, w23_67, w23_69, w23_70, w23_71, w23_72, w23_73, w23_74, w23_75, w23_78, w23_80, w23_82, w23_85, w23_87, w23_89, w23_92, w23_95, w23_97, w23_99, w23_100, w23_102, w23_103, w23_105, w23_106, w23_108, w23_111, w23_112, x23_114, w23_117, w23_120, w23_123, w23_126, w23_127, w23_130, w23_131, w23_133, w23_136, w23_137, x23_138, w23_141, w23_142, x23_143, w23_146, w23_149, w23_150, w23_153, w23_154, w23_155, w23_158, w23_159, x23_160, w23_163, w23_164, x23_166, w23_169, w23_172, w23_173, x23_174, w23_177, rt23, aw_st, ai_cls, ai_len, ai_p, ai_sw, ai_m, ai_c, ai_at, ai_isI, ai_isJ, ai_isA, ai_ld, ai_1i, ai_2i, ai_2l, ai_cn, ai_j, ai_set, ai_set2, ai_nl, ai_rs, ai_sm, Value.category, hk0, hk1, lits, litb, litm, litm2, List.getElem?_cons_zero, List.getElem?_cons_succ, or_n0, bit_r, fi0, fi1, fi2, fi3, nI_toInt, nI_add, pk_mul, nI_leI, nI_ltI, nI_eq, pk_sub, ib_nI, nI_clamp, va_up_self, va_up_ne, va_up_up, va_up_comm, pk_us, pk_un, upd_up, updL_up, pk_uLs, pk_uLn, b01_1, b01_0, b01_1s, b01_0s, or_b, c1, c3]
        exact this) (n - p) 0 (upd f 3 (nI n)) none (by omega) (by simp) (by simp [upd]) (fun j hj => by simp [upd, va_up, hj])
  simp (disch := omega) [w23_0, w23_1, w23_2, w23_3, w23_4, w23_5, w23_6, w23_7, w23_9, w23_10, x23_11_2, x23_14, w23_17, x23_18_2, w23_21, aw_st, ai_cls, ai_len, ai_p, ai_sw, ai_m, ai_c, ai_at, ai_isI, ai_isJ, ai_isA, ai_ld, ai_1i, ai_2i, ai_2l, ai_cn, ai_j, ai_set, ai_set2, ai_nl, ai_rs, ai_sm, Value.category, hk0, hk1, lits, litb, litm, litm2, List.getElem?_cons_zero, List.getElem?_cons_succ, or_n0, bit_r, fi0, fi1, fi2, fi3, nI_toInt, nI_add, pk_mul, nI_leI, nI_ltI, nI_eq, pk_sub, ib_nI, nI_clamp, va_up_self, va_up_ne, va_up_up, va_up_comm, pk_us, pk_un, upd_up, updL_up, pk_uLs, pk_uLn, b01_1, b01_0, b01_1s, b01_0s, or_b, h1, h5, fin2, ofN, litl]
  simp (disch := omega) [cAl, cDg, F5, F10, aw_st, ai_cls, ai_len, ai_p, ai_sw, ai_m, ai_c, ai_at, ai_isI, ai_isJ, ai_isA, ai_ld, ai_1i, ai_2i, ai_2l, ai_cn, ai_j, ai_set, ai_set2, ai_nl, ai_rs, ai_sm, Value.category, hk0, hk1, lits, litb, litm, litm2, List.getElem?_cons_zero, List.getElem?_cons_succ, or_n0, bit_r, fi0, fi1, fi2, fi3, nI_toInt, nI_add, pk_mul, nI_leI, nI_ltI, nI_eq, pk_sub, ib_nI, nI_clamp, va_up_self, va_up_ne, va_up_up, va_up_comm, pk_us, pk_un, upd_up, updL_up, pk_uLs, pk_uLn, b01_1, b01_0, b01_1s, b01_0s, or_b, fin2, ofN, litl] at hl
  exact hl
def keysN : List Nat := kws.flatMap (fun u => u ++ [32])
theorem keysN_len : keysN.length = 113 := by decide +kernel
theorem keysN_at : ∀ k, k < 113 → et_keys.getD k 0 = nI (keysN.getD k 0) := by
  have h : (List.range 113).all (fun k => et_keys.getD k 0 == nI (keysN.getD k 0)) = true := by decide +kernel
  exact fun k hk => eq_of_beq (List.all_eq_true.mp h k (List.mem_range.mpr hk))
theorem keysN_lt : ∀ k, k < 113 → keysN.getD k 0 < 128 := by
  have h : (List.range 113).all (fun k => decide (keysN.getD k 0 < 128)) = true := by decide +kernel
  exact fun k hk => of_decide_eq_true (List.all_eq_true.mp h k (List.mem_range.mpr hk))
/-- the walk over KEYS -/
def ks (t : Nat → Nat) (fr to n : Nat) : List Nat → Nat → Nat → Bool → Int32
  | [], _, _, _ => mi1
  | c :: cs, j, i, lk => if c = 32 then (if lk = true ∧ i = to then nI j else ks t fr to n cs (j + 1) fr true) else if lk = true ∧ i < to ∧ i < n ∧ t i = c then ks t fr to n cs j (i + 1) true else ks t fr to n cs j i false
theorem ks_false {fr to : Nat} {rest : List Nat} : ∀ (u : List Nat) (j i : Nat), (∀ c ∈ u, ¬ c = 32) → ks t fr to n (u ++ 32 :: rest) j i false = ks t fr to n rest (j + 1) fr true := by
  intro u
  induction u with
  | nil =>
    intro j i _
    show ks t fr to n (32 :: rest) j i false = _
    rw [ks, if_pos rfl, if_neg (by simp)]
  | cons c u ih =>
    intro j i h
    show ks t fr to n (c :: (u ++ 32 :: rest)) j i false = _
    rw [ks, if_neg (h c (by simp)), if_neg (by simp)]
    exact ih j i (fun x hx => h x (by simp [hx]))
theorem ks_word {fr K : Nat} {rest : List Nat} (hn : fr + K ≤ n) : ∀ (u : List Nat) (j m : Nat), (∀ c ∈ u, ¬ c = 32) → m ≤ K → ks t fr (fr + K) n (u ++ 32 :: rest) j (fr + m) true = if fw t (fr + m) (K - m) = u then nI j else ks t fr (fr + K) n rest (j + 1) fr true := by
  intro u
  induction u with
  | nil =>
    intro j m _ hm
    show ks t fr (fr + K) n (32 :: rest) j (fr + m) true = _
    rw [ks, if_pos rfl]
    by_cases e : m = K
    · subst e
      rw [if_pos ⟨rfl, rfl⟩, Nat.sub_self, if_pos (show fw t (fr + m) 0 = [] from rfl)]
    · obtain ⟨r, hr⟩ : ∃ r, K - m = r + 1 := ⟨K - m - 1, by omega⟩
      rw [if_neg (by omega), hr, if_neg (by simp [fw])]
  | cons c u ih =>
    intro j m h hm
    show ks t fr (fr + K) n (c :: (u ++ 32 :: rest)) j (fr + m) true = _
    rw [ks, if_neg (h c (by simp))]
    by_cases e : m = K
    · subst e
      rw [if_neg (by omega), ks_false u j _ (fun x hx => h x (by simp [hx])), Nat.sub_self, if_neg (by simp [fw])]
    · obtain ⟨r, hr⟩ : ∃ r, K - m = r + 1 := ⟨K - m - 1, by omega⟩
      by_cases ec : t (fr + m) = c
      · have := ih j (m + 1) (fun x hx => h x (by simp [hx])) (by omega)
        rw [if_pos ⟨rfl, by omega, by omega, ec⟩, Nat.add_assoc, this, hr, fw, show K - (m + 1) = r by omega, Nat.add_assoc, ec]
        simp
      · rw [if_neg (fun q => ec q.2.2.2), ks_false u j _ (fun x hx => h x (by simp [hx])), hr, fw, if_neg (by simp [ec])]
theorem ks_all {fr K : Nat} (hn : fr + K ≤ n) : ∀ (us : List (List Nat)) (j : Nat), (∀ u ∈ us, ∀ c ∈ u, ¬ c = 32) → ks t fr (fr + K) n (us.flatMap (fun u => u ++ [32])) j fr true = if us.findIdx (fun u => decide (u = fw t fr K)) < us.length then nI (j + us.findIdx (fun u => decide (u = fw t fr K))) else mi1 := by
  intro us
  induction us with
  | nil => intro j _; rfl
  | cons u us ih =>
    intro j h
    have hw := ks_word (t := t) (n := n) (fr := fr) (K := K) (rest := us.flatMap (fun u => u ++ [32])) hn u j 0 (h u (by simp)) (by omega)
    have e : (u :: us).flatMap (fun u => u ++ [32]) = u ++ 32 :: us.flatMap (fun u => u ++ [32]) := by simp
    rw [e]
    rw [Nat.add_zero, Nat.sub_zero] at hw
    rw [hw, List.findIdx_cons]
    by_cases c : fw t fr K = u
    · rw [if_pos c]
      simp [c]
    · rw [if_neg c, ih (j + 1) (fun x hx => h x (by simp [hx]))]
      have c' : decide (u = fw t fr K) = false := by rw [decide_eq_false_iff_not]; exact fun q => c q.symm
      rw [c']
      simp only [cond_false, List.length_cons, Nat.add_lt_add_iff_right]
      rw [show j + 1 + us.findIdx (fun u => decide (u = fw t fr K)) = j + (us.findIdx (fun u => decide (u = fw t fr K)) + 1) by omega]
def yI (j : Nat) : Int32 := if j < 21 then nI j else mi1
theorem ks_key {fr K : Nat} (hn : fr + K ≤ n) : ks t fr (fr + K) n keysN 0 fr true = yI (kN (fw t fr K)) := by
  have h32 : ∀ u ∈ kws, ∀ c ∈ u, ¬ c = 32 := fun u hu c hc => by have := (kws_wd u hu).1 c hc; omega
  have := ks_all (t := t) hn kws 0 h32
  rw [Nat.zero_add] at this
  exact this
theorem hk2 {st : List Value} : ai_hook ET 2 (.ref 1000001 :: st) = if ai_sm st ≤ 8 then some (.int 113 :: st) else none := rfl
theorem hk3 {x : Int32} {st : List Value} : ai_hook ET 3 (.int x :: .ref 1000001 :: st) = if ai_sm st ≤ 8 ∧ ai_ib x 113 = true then some (.int (et_keys.getD x.toNatClampNeg 0) :: st) else none := rfl
theorem hk4 {st : List Value} : ai_hook ET 4 st = some (.ref 1000001 :: st) := rfl
set_option maxHeartbeats 8000000 in
theorem key_loop {fr to : Nat} (h0 : X 2 0 = nI 1) (h1 : X 2 1 = nI n) (hT : TB8 (X 1) t) (hn : n ≤ 940) (hfr : fr ≤ 940) (hto : to ≤ 940) : ∀ (cs : List Nat) (k j i : Nat) (lk : Bool) (z : Option Value), keysN.drop k = cs → k + cs.length = 113 → j ≤ k → i ≤ 940 → aw ET G (d + 1) 24 11 [some (.ref 2), some (.int (nI fr)), some (.int (nI to)), some (.int (nI j)), some (.int (nI i)), some (.int (b01 (lk = true))), some (.int (nI k)), z] [] 231 sl (mem X Y) Q = Q [.int (ks t fr to n cs j i lk)] 231 sl (mem X Y) := by
  have e113 : (113 : Int32) = nI 113 := rfl
  intro cs
  induction cs with
  | nil =>
    intro k j i lk z hd hk hj hi
    have : k = 113 := by simpa using hk
    subst this
    simp (disch := omega) [w24_0, w24_1, w24_2, w24_3, w24_5, w24_6, w24_8, w24_9, w24_11, w24_13, w24_15, w24_18, w24_21, w24_23, w24_25, w24_28, w24_30, w24_32, w24_34, w24_37, w24_39, w24_42, w24_44, w24_45, w24_48, w24_49, w24_50, w24_53, w24_54, w24_56, w24_57, w24_59, w24_62, w24_64, w24_67, w24_69, w24_70, w24_73, w24_75, x24_76_2, w24_79, w24_82, x24_83_2, w24_86, w24_88, w24_89, w24_91, w24_94, w24_97, w24_100, w24_101, w24_103, w24_106, w24_109, w24_110, rt24, ow24, pl7_76, pl7_78, pl7_84, aw_st, ai_cls, ai_len, ai_p, ai_sw, ai_m, ai_c, ai_at, ai_isI, ai_isJ, ai_isA, ai_ld, ai_1i, ai_2i, ai_2l, ai_cn, ai_j, ai_set, ai_set2, ai_nl, ai_rs, ai_sm, Value.category, hk0, hk1, lits, litb, litm, litm2, List.getElem?_cons_zero, List.getElem?_cons_succ, or_n0, bit_r, fi0, fi1, fi2, fi3, nI_toInt, nI_add, pk_mul, nI_leI, nI_ltI, nI_eq, pk_sub, ib_nI, nI_clamp, va_up_self, va_up_ne, va_up_up, va_up_comm, pk_us, pk_un, upd_up, updL_up, pk_uLs, pk_uLn, b01_1, b01_0, b01_1s, b01_0s, or_b, hk2, hk4, e113, ks]
  | cons c cs ih =>
    intro k j i lk z hd hk hj hi
    have hk' : k + (cs.length + 1) = 113 := by simpa using hk
    have hlt : k < keysN.length := by rw [keysN_len]; omega
    have hdrop := List.drop_eq_getElem_cons hlt
    rw [hd] at hdrop
    have hc : keysN.getD k 0 = c := by
      rw [getD_at _ hlt]
      exact (List.cons.inj hdrop).1.symm
    have hd' : keysN.drop (k + 1) = cs := (List.cons.inj hdrop).2.symm
    have hg0 : et_keys.getD k 0 = nI c := by rw [keysN_at k (by omega), hc]
    have hg : et_keys[k]?.getD (nI 0) = nI c := by rw [← List.getD_eq_getElem?_getD]; exact hg0
    have hc128 : c < 128 := by rw [← hc]; exact keysN_lt k (by omega)
    rw [w24_11]
    unfold ks
    by_cases e : c = 32
    · cases lk
      · have := ih (k + 1) (j + 1) fr true (some (.int (nI c))) hd' (by omega) (by omega) hfr
        simp (disch := omega) [w24_0, w24_1, w24_2, w24_3, w24_5, w24_6, w24_8, w24_9, w24_13, w24_15, w24_18, w24_21, w24_23, w24_25, w24_28, w24_30, w24_32, w24_34, w24_37, w24_39, w24_42, w24_44, w24_45, w24_48, w24_49, w24_50, w24_53, w24_54, w24_56, w24_57, w24_59, w24_62, w24_64, w24_67, w24_69, w24_70, w24_73, w24_75, x24_76_2, w24_79, w24_82, x24_83_2, w24_86, w24_88, w24_89, w24_91, w24_94, w24_97, w24_100, w24_101, w24_103, w24_106, w24_109, w24_110, rt24, ow24, pl7_76, pl7_78, pl7_84, aw_st, ai_cls, ai_len, ai_p, ai_sw, ai_m, ai_c, ai_at, ai_isI, ai_isJ, ai_isA, ai_ld, ai_1i, ai_2i, ai_2l, ai_cn, ai_j, ai_set, ai_set2, ai_nl, ai_rs, ai_sm, Value.category, hk0, hk1, lits, litb, litm, litm2, List.getElem?_cons_zero, List.getElem?_cons_succ, or_n0, bit_r, fi0, fi1, fi2, fi3, nI_toInt, nI_add, pk_mul, nI_leI, nI_ltI, nI_eq, pk_sub, ib_nI, nI_clamp, va_up_self, va_up_ne, va_up_up, va_up_comm, pk_us, pk_un, upd_up, updL_up, pk_uLs, pk_uLn, b01_1, b01_0, b01_1s, b01_0s, or_b, hk2, hk3, hk4, e113, hg, e, show ¬ 113 ≤ k by omega, b01] at this ⊢
        exact this
      · by_cases e2 : i = to
        · simp (disch := omega) [w24_0, w24_1, w24_2, w24_3, w24_5, w24_6, w24_8, w24_9, w24_13, w24_15, w24_18, w24_21, w24_23, w24_25, w24_28, w24_30, w24_32, w24_34, w24_37, w24_39, w24_42, w24_44, w24_45, w24_48, w24_49, w24_50, w24_53, w24_54, w24_56, w24_57, w24_59, w24_62, w24_64, w24_67, w24_69, w24_70, w24_73, w24_75, x24_76_2, w24_79, w24_82, x24_83_2, w24_86, w24_88, w24_89, w24_91, w24_94, w24_97, w24_100, w24_101, w24_103, w24_106, w24_109, w24_110, rt24, ow24, pl7_76, pl7_78, pl7_84, aw_st, ai_cls, ai_len, ai_p, ai_sw, ai_m, ai_c, ai_at, ai_isI, ai_isJ, ai_isA, ai_ld, ai_1i, ai_2i, ai_2l, ai_cn, ai_j, ai_set, ai_set2, ai_nl, ai_rs, ai_sm, Value.category, hk0, hk1, lits, litb, litm, litm2, List.getElem?_cons_zero, List.getElem?_cons_succ, or_n0, bit_r, fi0, fi1, fi2, fi3, nI_toInt, nI_add, pk_mul, nI_leI, nI_ltI, nI_eq, pk_sub, ib_nI, nI_clamp, va_up_self, va_up_ne, va_up_up, va_up_comm, pk_us, pk_un, upd_up, updL_up, pk_uLs, pk_uLn, b01_1, b01_0, b01_1s, b01_0s, or_b, hk2, hk3, hk4, e113, hg, e, e2, show ¬ 113 ≤ k by omega, b01]
        · have := ih (k + 1) (j + 1) fr true (some (.int (nI c))) hd' (by omega) (by omega) hfr
          simp (disch := omega) [w24_0, w24_1, w24_2, w24_3, w24_5, w24_6, w24_8, w24_9, w24_13, w24_15, w24_18, w24_21, w24_23, w24_25, w24_28, w24_30, w24_32, w24_34, w24_37, w24_39, w24_42, w24_44, w24_45, w24_48, w24_49, w24_50, w24_53, w24_54, w24_56, w24_57, w24_59, w24_62, w24_64, w24_67, w24_69, w24_70, w24_73, w24_75, x24_76_2, w24_79, w24_82, x24_83_2, w24_86, w24_88, w24_89, w24_91, w24_94, w24_97, w24_100, w24_101, w24_103, w24_106, w24_109, w24_110, rt24, ow24, pl7_76, pl7_78, pl7_84, aw_st, ai_cls, ai_len, ai_p, ai_sw, ai_m, ai_c, ai_at, ai_isI, ai_isJ, ai_isA, ai_ld, ai_1i, ai_2i, ai_2l, ai_cn, ai_j, ai_set, ai_set2, ai_nl, ai_rs, ai_sm, Value.category, hk0, hk1, lits, litb, litm, litm2, List.getElem?_cons_zero, List.getElem?_cons_succ, or_n0, bit_r, fi0, fi1, fi2, fi3, nI_toInt, nI_add, pk_mul, nI_leI, nI_ltI, nI_eq, pk_sub, ib_nI, nI_clamp, va_up_self, va_up_ne, va_up_up, va_up_comm, pk_us, pk_un, upd_up, updL_up, pk_uLs, pk_uLn, b01_1, b01_0, b01_1s, b01_0s, or_b, hk2, hk3, hk4, e113, hg, e, e2, show ¬ 113 ≤ k by omega, b01] at this ⊢
          exact this
    · cases lk
      · have := ih (k + 1) j i false (some (.int (nI c))) hd' (by omega) (by omega) hi
        simp (disch := omega) [w24_0, w24_1, w24_2, w24_3, w24_5, w24_6, w24_8, w24_9, w24_13, w24_15, w24_18, w24_21, w24_23, w24_25, w24_28, w24_30, w24_32, w24_34, w24_37, w24_39, w24_42, w24_44, w24_45, w24_48, w24_49, w24_50, w24_53, w24_54, w24_56, w24_57, w24_59, w24_62, w24_64, w24_67, w24_69, w24_70, w24_73, w24_75, x24_76_2, w24_79, w24_82, x24_83_2, w24_86, w24_88, w24_89, w24_91, w24_94, w24_97, w24_100, w24_101, w24_103, w24_106, w24_109, w24_110, rt24, ow24, pl7_76, pl7_78, pl7_84, aw_st, ai_cls, ai_len, ai_p, ai_sw, ai_m, ai_c, ai_at, ai_isI, ai_isJ, ai_isA, ai_ld, ai_1i, ai_2i, ai_2l, ai_cn, ai_j, ai_set, ai_set2, ai_nl, ai_rs, ai_sm, Value.category, hk0, hk1, lits, litb, litm, litm2, List.getElem?_cons_zero, List.getElem?_cons_succ, or_n0, bit_r, fi0, fi1, fi2, fi3, nI_toInt, nI_add, pk_mul, nI_leI, nI_ltI, nI_eq, pk_sub, ib_nI, nI_clamp, va_up_self, va_up_ne, va_up_up, va_up_comm, pk_us, pk_un, upd_up, updL_up, pk_uLs, pk_uLn, b01_1, b01_0, b01_1s, b01_0s, or_b, hk2, hk3, hk4, e113, hg, e, show ¬ 113 ≤ k by omega, b01] at this ⊢
        exact this
      · by_cases e2 : i < to
        · by_cases e3 : i < n
          · obtain ⟨ht, hx⟩ := hT i (by omega)
            by_cases e4 : t i = c
            · have := ih (k + 1) j (i + 1) true (some (.int (nI c))) hd' (by omega) (by omega) (by omega)
              simp (disch := omega) [w24_0, w24_1, w24_2, w24_3, w24_5, w24_6, w24_8, w24_9, w24_13, w24_15, w24_18, w24_21, w24_23, w24_25, w24_28, w24_30, w24_32, w24_34, w24_37, w24_39, w24_42, w24_44, w24_45, w24_48, w24_49, w24_50, w24_53, w24_54, w24_56, w24_57, w24_59, w24_62, w24_64, w24_67, w24_69, w24_70, w24_73, w24_75, x24_76_2, w24_79, w24_82, x24_83_2, w24_86, w24_88, w24_89, w24_91, w24_94, w24_97, w24_100, w24_101, w24_103, w24_106, w24_109, w24_110, rt24, ow24, pl7_76, pl7_78, pl7_84, aw_st, ai_cls, ai_len, ai_p, ai_sw, ai_m, ai_c, ai_at, ai_isI, ai_isJ, ai_isA, ai_ld, ai_1i, ai_2i, ai_2l, ai_cn, ai_j, ai_set, ai_set2, ai_nl, ai_rs, ai_sm, Value.category, hk0, hk1, lits, litb, litm, litm2, List.getElem?_cons_zero, List.getElem?_cons_succ, or_n0, bit_r, fi0, fi1, fi2, fi3, nI_toInt, nI_add, pk_mul, nI_leI, nI_ltI, nI_eq, pk_sub, ib_nI, nI_clamp, va_up_self, va_up_ne, va_up_up, va_up_comm, pk_us, pk_un, upd_up, updL_up, pk_uLs, pk_uLn, b01_1, b01_0, b01_1s, b01_0s, or_b, hk2, hk3, hk4, e113, hg, h0, h1, mm1, hx, bI_eq, e, e2, e3, e4, show ¬ 113 ≤ k by omega, show ¬ to ≤ i by omega, show ¬ n ≤ i by omega, b01] at this ⊢
              exact this
            · have := ih (k + 1) j i false (some (.int (nI c))) hd' (by omega) (by omega) hi
              simp (disch := omega) [w24_0, w24_1, w24_2, w24_3, w24_5, w24_6, w24_8, w24_9, w24_13, w24_15, w24_18, w24_21, w24_23, w24_25, w24_28, w24_30, w24_32, w24_34, w24_37, w24_39, w24_42, w24_44, w24_45, w24_48, w24_49, w24_50, w24_53, w24_54, w24_56, w24_57, w24_59, w24_62, w24_64, w24_67, w24_69, w24_70, w24_73, w24_75, x24_76_2, w24_79, w24_82, x24_83_2, w24_86, w24_88, w24_89, w24_91, w24_94, w24_97, w24_100, w24_101, w24_103, w24_106, w24_109, w24_110, rt24, ow24, pl7_76, pl7_78, pl7_84, aw_st, ai_cls, ai_len, ai_p, ai_sw, ai_m, ai_c, ai_at, ai_isI, ai_isJ, ai_isA, ai_ld, ai_1i, ai_2i, ai_2l, ai_cn, ai_j, ai_set, ai_set2, ai_nl, ai_rs, ai_sm, Value.category, hk0, hk1, lits, litb, litm, litm2, List.getElem?_cons_zero, List.getElem?_cons_succ, or_n0, bit_r, fi0, fi1, fi2, fi3, nI_toInt, nI_add, pk_mul, nI_leI, nI_ltI, nI_eq, pk_sub, ib_nI, nI_clamp, va_up_self, va_up_ne, va_up_up, va_up_comm, pk_us, pk_un, upd_up, updL_up, pk_uLs, pk_uLn, b01_1, b01_0, b01_1s, b01_0s, or_b, hk2, hk3, hk4, e113, hg, h0, h1, mm1, hx, bI_eq, e, e2, e3, e4, show ¬ 113 ≤ k by omega, show ¬ to ≤ i by omega, show ¬ n ≤ i by omega, b01] at this ⊢
              exact this
          · have := ih (k + 1) j i false (some (.int (nI c))) hd' (by omega) (by omega) hi
            simp (disch := omega) [w24_0, w24_1, w24_2, w24_3, w24_5, w24_6, w24_8, w24_9, w24_13, w24_15, w24_18, w24_21, w24_23, w24_25, w24_28, w24_30, w24_32, w24_34, w24_37, w24_39, w24_42, w24_44, w24_45, w24_48, w24_49, w24_50, w24_53, w24_54, w24_56, w24_57, w24_59, w24_62, w24_64, w24_67, w24_69, w24_70, w24_73, w24_75, x24_76_2, w24_79, w24_82, x24_83_2, w24_86, w24_88, w24_89, w24_91, w24_94, w24_97, w24_100, w24_101, w24_103, w24_106, w24_109, w24_110, rt24, ow24, pl7_76, pl7_78, pl7_84, aw_st, ai_cls, ai_len, ai_p, ai_sw, ai_m, ai_c, ai_at, ai_isI, ai_isJ, ai_isA, ai_ld, ai_1i, ai_2i, ai_2l, ai_cn, ai_j, ai_set, ai_set2, ai_nl, ai_rs, ai_sm, Value.category, hk0, hk1, lits, litb, litm, litm2, List.getElem?_cons_zero, List.getElem?_cons_succ, or_n0, bit_r, fi0, fi1, fi2, fi3, nI_toInt, nI_add, pk_mul, nI_leI, nI_ltI, nI_eq, pk_sub, ib_nI, nI_clamp, va_up_self, va_up_ne, va_up_up, va_up_comm, pk_us, pk_un, upd_up, updL_up, pk_uLs, pk_uLn, b01_1, b01_0, b01_1s, b01_0s, or_b, hk2, hk3, hk4, e113, hg, h0, h1, e, e2, e3, show ¬ 113 ≤ k by omega, show ¬ to ≤ i by omega, show n ≤ i by omega, b01] at this ⊢
            exact this
        · have := ih (k + 1) j i false (some (.int (nI c))) hd' (by omega) (by omega) hi
          simp (disch := omega) [w24_0, w24_1, w24_2, w24_3, w24_5, w24_6, w24_8, w24_9, w24_13, w24_15, w24_18, w24_21, w24_23, w24_25, w24_28, w24_30, w24_32, w24_34, w24_37, w24_39, w24_42, w24_44, w24_45, w24_48, w24_49, w24_50, w24_53, w24_54, w24_56, w24_57, w24_59, w24_62, w24_64, w24_67, w24_69, w24_70, w24_73, w24_75, x24_76_2, w24_79, w24_82, x24_83_2, w24_86, w24_88, w24_89, w24_91, w24_94, w24_97, w24_100, w24_101, w24_103, w24_106, w24_109, w24_110, rt24, ow24, pl7_76, pl7_78, pl7_84, aw_st, ai_cls, ai_len, ai_p, ai_sw, ai_m, ai_c, ai_at, ai_isI, ai_isJ, ai_isA, ai_ld, ai_1i, ai_2i, ai_2l, ai_cn, ai_j, ai_set, ai_set2, ai_nl, ai_rs, ai_sm, Value.category, hk0, hk1, lits, litb, litm, litm2, List.getElem?_cons_zero, List.getElem?_cons_succ, or_n0, bit_r, fi0, fi1, fi2, fi3, nI_toInt, nI_add, pk_mul, nI_leI, nI_ltI, nI_eq, pk_sub, ib_nI, nI_clamp, va_up_self, va_up_ne, va_up_up, va_up_comm, pk_us, pk_un, upd_up, updL_up, pk_uLs, pk_uLn, b01_1, b01_0, b01_1s, b01_0s, or_b, hk2, hk3, hk4, e113, hg, e, e2, show ¬ 113 ≤ k by omega, show to ≤ i by omega, b01] at this ⊢
          exact this
theorem keyOf_eq {fr K : Nat} (h0 : X 2 0 = nI 1) (h1 : X 2 1 = nI n) (hT : TB8 (X 1) t) (hn : n ≤ 940) (hK : fr + K ≤ n) : aw ET G (d + 1) 24 0 [some (.ref 2), some (.int (nI fr)), some (.int (nI (fr + K))), none, none, none, none, none] [] 231 sl (mem X Y) Q = Q [.int (yI (kN (fw t fr K)))] 231 sl (mem X Y) := by
  have hl := key_loop (G := G) (d := d) (sl := sl) (Q := Q) (Y := Y) (fr := fr) (to := fr + K) h0 h1 hT hn (by omega) (by omega) keysN 0 0 fr true none rfl (by rw [keysN_len]) (by omega) (by omega)
  rw [ks_key hK] at hl
  simp (disch := omega) [w24_0, w24_1, w24_2, w24_3, w24_5, w24_6, w24_8, w24_9, aw_st, ai_cls, ai_len, ai_p, ai_sw, ai_m, ai_c, ai_at, ai_isI, ai_isJ, ai_isA, ai_ld, ai_1i, ai_2i, ai_2l, ai_cn, ai_j, ai_set, ai_set2, ai_nl, ai_rs, ai_sm, Value.category, hk0, hk1, lits, litb, litm, litm2, List.getElem?_cons_zero, List.getElem?_cons_succ, or_n0, bit_r, fi0, fi1, fi2, fi3, nI_toInt, nI_add, pk_mul, nI_leI, nI_ltI, nI_eq, pk_sub, ib_nI, nI_clamp, va_up_self, va_up_ne, va_up_up, va_up_comm, pk_us, pk_un, upd_up, updL_up, pk_uLs, pk_uLn, b01_1, b01_0, b01_1s, b01_0s, or_b]
  simp [b01] at hl
  exact hl
end TKD
