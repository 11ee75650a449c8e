/-! THROWN: where person, story, griefs come to it -/
section NSR
variable {T : ai_T} {G : ai_G} {d mi pc n sl len : Nat} {L : ai_L} {st : List Value} {M : ai_M} {i : Instr} {Z : ai_C → Prop} {X : mX} {Y : mY} {P S : Nat}
theorem awi_gf {j ci kf fin o : Nat} {fs : List Value} {v : Value} (hd : ai_dec T mi pc = some (.getfield j, 3)) (hp : ai_pool T (ai_own T mi) j = some (0, ci, kf, fin)) (ho : o < n) (hM : M o = .inr (ci, fs)) (hk : kf < ai_nf T ci) (hv : fs[kf]? = some v) (h : awi T G d mi (pc + 3, L, v :: st, n, sl, M) Z) : awi T G d mi (pc, L, .ref o :: st, n, sl, M) Z := by
  refine awi_m hd rfl rfl ?_
  simp only [ai_m, hp]
  rw [if_pos ho, hM]
  dsimp only
  rw [if_pos ⟨rfl, hk⟩, hv]
  exact h
theorem awi_calls {j mj na : Nat} (hd : ai_dec T mi pc = some (.invokestatic j, 3)) (hp : ai_pool T (ai_own T mi) j = some (1, mj, na, 1)) (h1 : na ≤ st.length ∧ ai_sm (st.drop na) ≤ 8 ∧ (ai_ar (st.take na).reverse).length ≤ ai_mx T mj ∧ ai_mx T mj ≤ 41)
    (h : aw T G d mj 0 (ai_en (st.take na).reverse (ai_mx T mj)) [] n sl M (fun r n sl M => awi T G (d + 1) mi (pc + 3, L, r ++ st.drop na, n, sl, M) Z)) : awi T G (d + 1) mi (pc, L, st, n, sl, M) Z := by
  obtain ⟨f, ⟨pc', L', st', n', sl', M'⟩, r, h2, h3, h4⟩ := h
  refine awi_one (f := f) ?_ h4
  unfold ai_one
  dsimp only at h3
  simp only [hd, ai_cls, ai_len, if_true, ai_c, hp, ai_go, h1, h2, h3, and_self]
theorem pI_no {N : Nat} {y : Int32} (hN : N ≤ 1000) (h : pI N y = false) : y.toInt < 0 ∨ (N : Int) ≤ y.toInt := by
  unfold pI at h
  rw [decide_eq_false_iff_not, Int32.le_iff_toInt_le, Int32.lt_iff_toInt_lt, nI_toInt (by omega)] at h
  rw [show (0 : Int32).toInt = 0 from rfl] at h
  omega
theorem bq_1 {b : Bool} (h : b = true) : b01 (b = true) = 1 := by subst h; rfl
theorem bq_0 {b : Bool} (h : b = false) : b01 (b = true) = 0 := by subst h; rfl
theorem pn_thr {x y : Int32} (hP : P ≤ 8) (hk : X 47 7 = nI P) (h : (pI P x && pI 11 y) = false) : awi ET G (d + 1) 173 (0, [some (.ref 0), some (.int x), some (.int y), none, none], [], 231, sl, mem X Y) (fun z => z.2.2 = ([], 231, sl, mem X Y) ∧ (z.1 = 14 ∨ z.1 = 188)) := by
  refine awi_p (i := .aload_n 0) (len := 1) (by decide +kernel) rfl rfl ?_
  show awi ET G (d + 1) 173 (1, _, [.ref 0], 231, sl, mem X Y) _
  refine awi_gf (j := 92) (ci := 11) (kf := 3) (fin := 1) (by decide +kernel) (by decide +kernel) (by omega) (mm0 X Y) (by decide +kernel) rfl ?_
  refine awi_gf (j := 138) (ci := 6) (kf := 0) (fin := 2) (by decide +kernel) (by decide +kernel) (by omega) (mm55 X Y) (by decide +kernel) rfl ?_
  show awi ET G (d + 1) 173 (7, _, [.ref 47], 231, sl, mem X Y) _
  refine awi_p (i := .iload_n 1) (len := 1) (by decide +kernel) rfl rfl ?_
  show awi ET G (d + 1) 173 (8, _, [.int x, .ref 47], 231, sl, mem X Y) _
  refine awi_call (d := d) (j := 142) (mj := 59) (na := 1) (by decide +kernel) (by decide +kernel) ?_ ?_ ?_
  · show (decide (47 < 231) && decide (1 = ai_own ET 59)) = true
    rw [ow59]
    rfl
  · rw [mx59]
    exact ⟨Nat.le_of_ble_eq_true rfl, Nat.le_of_ble_eq_true rfl, Nat.le_of_ble_eq_true rfl, Nat.le_of_ble_eq_true rfl⟩
  · rw [mx59]
    show aw ET G d 59 0 [some (.ref 47), some (.int x)] [] 231 sl (mem X Y) _
    rw [hasP_47 hP hk]
    show awi ET G (d + 1) 173 (11, _, [.int (b01 (pI P x = true))], 231, sl, mem X Y) _
    refine awi_p (i := .ifCond .ne 13) (len := 3) (by decide +kernel) rfl rfl ?_
    simp only [ai_p, ai_1i, ai_cn, ai_j]
    cases hx : pI P x
    · rw [if_pos (bq_0 rfl)]
      exact awi_0 ⟨rfl, Or.inl rfl⟩
    · rw [if_neg (show ¬ b01 (true = true) = 0 by rw [bq_1 rfl]; decide), if_pos (by decide)]
      rw [hx, Bool.true_and] at h
      have hy := pI_no (by omega) h
      show awi ET G (d + 1) 173 (24, _, [], 231, sl, mem X Y) _
      refine awi_p (i := .aload_n 0) (len := 1) (by decide +kernel) rfl rfl ?_
      show awi ET G (d + 1) 173 (25, _, [.ref 0], 231, sl, mem X Y) _
      refine awi_gf (j := 92) (ci := 11) (kf := 3) (fin := 1) (by decide +kernel) (by decide +kernel) (by omega) (mm0 X Y) (by decide +kernel) rfl ?_
      refine awi_gf (j := 138) (ci := 6) (kf := 0) (fin := 2) (by decide +kernel) (by decide +kernel) (by omega) (mm55 X Y) (by decide +kernel) rfl ?_
      show awi ET G (d + 1) 173 (31, _, [.ref 47], 231, sl, mem X Y) _
      refine awi_p (i := .astore_n 3) (len := 1) (by decide +kernel) rfl rfl ?_
      show awi ET G (d + 1) 173 (32, [some (.ref 0), some (.int x), some (.int y), some (.ref 47), none], [], 231, sl, mem X Y) _
      refine awi_p (i := .aload_n 0) (len := 1) (by decide +kernel) rfl rfl ?_
      show awi ET G (d + 1) 173 (33, _, [.ref 0], 231, sl, mem X Y) _
      refine awi_gf (j := 92) (ci := 11) (kf := 3) (fin := 1) (by decide +kernel) (by decide +kernel) (by omega) (mm0 X Y) (by decide +kernel) rfl ?_
      refine awi_gf (j := 153) (ci := 6) (kf := 1) (fin := 2) (by decide +kernel) (by decide +kernel) (by omega) (mm55 X Y) (by decide +kernel) rfl ?_
      show awi ET G (d + 1) 173 (39, _, [.ref 61], 231, sl, mem X Y) _
      refine awi_p (i := .astore 4) (len := 2) (by decide +kernel) rfl rfl ?_
      show awi ET G (d + 1) 173 (41, [some (.ref 0), some (.int x), some (.int y), some (.ref 47), some (.ref 61)], [], 231, sl, mem X Y) _
      refine awi_p (i := .iload_n 2) (len := 1) (by decide +kernel) rfl rfl ?_
      show awi ET G (d + 1) 173 (42, _, [.int y], 231, sl, mem X Y) _
      refine awi_sw (i := .tableswitch 146 0 10 #[58, 66, 74, 81, 88, 97, 106, 116, 124, 132, 139]) (len := 58) (by decide +kernel) rfl ?_
      simp only [ai_sw, ai_1i]
      rw [if_pos (by omega)]
      simp only [ai_j]
      rw [if_pos (by decide)]
      exact awi_0 ⟨rfl, Or.inr rfl⟩
theorem st_thr {x y : Int32} (hS : S ≤ 8) (hk : X 47 8 = nI S) (h : (pI S x && pI 4 y) = false) : awi ET G (d + 1) 174 (0, [some (.ref 0), some (.int x), some (.int y)], [], 231, sl, mem X Y) (fun z => z.2.2 = ([], 231, sl, mem X Y) ∧ (z.1 = 14 ∨ z.1 = 107)) := by
  refine awi_p (i := .aload_n 0) (len := 1) (by decide +kernel) rfl rfl ?_
  show awi ET G (d + 1) 174 (1, _, [.ref 0], 231, sl, mem X Y) _
  refine awi_gf (j := 92) (ci := 11) (kf := 3) (fin := 1) (by decide +kernel) (by decide +kernel) (by omega) (mm0 X Y) (by decide +kernel) rfl ?_
  refine awi_gf (j := 138) (ci := 6) (kf := 0) (fin := 2) (by decide +kernel) (by decide +kernel) (by omega) (mm55 X Y) (by decide +kernel) rfl ?_
  show awi ET G (d + 1) 174 (7, _, [.ref 47], 231, sl, mem X Y) _
  refine awi_p (i := .iload_n 1) (len := 1) (by decide +kernel) rfl rfl ?_
  show awi ET G (d + 1) 174 (8, _, [.int x, .ref 47], 231, sl, mem X Y) _
  refine awi_call (d := d) (j := 200) (mj := 77) (na := 1) (by decide +kernel) (by decide +kernel) ?_ ?_ ?_
  · show (decide (47 < 231) && decide (1 = ai_own ET 77)) = true
    rw [ow77]
    rfl
  · rw [mx77]
    exact ⟨Nat.le_of_ble_eq_true rfl, Nat.le_of_ble_eq_true rfl, Nat.le_of_ble_eq_true rfl, Nat.le_of_ble_eq_true rfl⟩
  · rw [mx77]
    show aw ET G d 77 0 [some (.ref 47), some (.int x)] [] 231 sl (mem X Y) _
    rw [hasS_47 hS hk]
    show awi ET G (d + 1) 174 (11, _, [.int (b01 (pI S x = true))], 231, sl, mem X Y) _
    refine awi_p (i := .ifCond .ne 13) (len := 3) (by decide +kernel) rfl rfl ?_
    simp only [ai_p, ai_1i, ai_cn, ai_j]
    cases hx : pI S x
    · rw [if_pos (bq_0 rfl)]
      exact awi_0 ⟨rfl, Or.inl rfl⟩
    · rw [if_neg (show ¬ b01 (true = true) = 0 by rw [bq_1 rfl]; decide), if_pos (by decide)]
      rw [hx, Bool.true_and] at h
      have hy := pI_no (by omega) h
      show awi ET G (d + 1) 174 (24, _, [], 231, sl, mem X Y) _
      refine awi_p (i := .iload_n 2) (len := 1) (by decide +kernel) rfl rfl ?_
      show awi ET G (d + 1) 174 (25, _, [.int y], 231, sl, mem X Y) _
      refine awi_sw (i := .tableswitch 82 0 3 #[31, 44, 56, 69]) (len := 31) (by decide +kernel) rfl ?_
      simp only [ai_sw, ai_1i]
      rw [if_pos (by omega)]
      simp only [ai_j]
      rw [if_pos (by decide)]
      exact awi_0 ⟨rfl, Or.inr rfl⟩
set_option maxHeartbeats 1000000 in
theorem gf_thr {a j k m w : Int32} (h : okF a j k m w = false) : awi ET G (d + 1) 175 (0, [some (.ref 0), some (.int a), some (.int j), some (.int k), some (.int m), some (.int w), none, none, none, none, none, none], [], 231, sl, mem X Y) (fun z => z.2.2 = ([], 231, sl, mem X Y) ∧ z.1 = 31) := by
  refine awi_p (i := .iload_n 1) (len := 1) (by decide +kernel) rfl rfl ?_
  show awi ET G (d + 1) 175 (1, _, [.int a], 231, sl, mem X Y) _
  refine awi_p (i := .iload_n 3) (len := 1) (by decide +kernel) rfl rfl ?_
  show awi ET G (d + 1) 175 (2, _, [.int k, .int a], 231, sl, mem X Y) _
  refine awi_p (i := .iload 4) (len := 2) (by decide +kernel) rfl rfl ?_
  show awi ET G (d + 1) 175 (4, _, [.int m, .int k, .int a], 231, sl, mem X Y) _
  refine awi_calls (d := d) (j := 318) (mj := 113) (na := 3) (by decide +kernel) (by decide +kernel) ?_ ?_
  · rw [mx113]
    exact ⟨Nat.le_of_ble_eq_true rfl, Nat.le_of_ble_eq_true rfl, Nat.le_of_ble_eq_true rfl, Nat.le_of_ble_eq_true rfl⟩
  · rw [mx113]
    show aw ET G d 113 0 [some (.int a), some (.int k), some (.int m)] [] 231 sl (mem X Y) _
    rw [areG_eq]
    show awi ET G (d + 1) 175 (7, _, [.int (b01 (okG a k m = true))], 231, sl, mem X Y) _
    refine awi_p (i := .ifCond .eq 24) (len := 3) (by decide +kernel) rfl rfl ?_
    simp only [ai_p, ai_1i, ai_cn, ai_j]
    cases hg : okG a k m
    · rw [if_pos (bq_0 rfl), if_pos (by decide)]
      exact awi_0 ⟨rfl, rfl⟩
    · rw [if_neg (show ¬ b01 (true = true) = 0 by rw [bq_1 rfl]; decide)]
      show awi ET G (d + 1) 175 (10, _, [], 231, sl, mem X Y) _
      refine awi_p (i := .iload_n 2) (len := 1) (by decide +kernel) rfl rfl ?_
      show awi ET G (d + 1) 175 (11, _, [.int j], 231, sl, mem X Y) _
      refine awi_p (i := .ifCond .lt 20) (len := 3) (by decide +kernel) rfl rfl ?_
      simp only [ai_p, ai_1i, ai_cn, ai_j]
      by_cases c1 : j < 0
      · rw [if_pos c1, if_pos (by decide)]
        exact awi_0 ⟨rfl, rfl⟩
      rw [if_neg c1]
      show awi ET G (d + 1) 175 (14, _, [], 231, sl, mem X Y) _
      refine awi_p (i := .iload_n 2) (len := 1) (by decide +kernel) rfl rfl ?_
      show awi ET G (d + 1) 175 (15, _, [.int j], 231, sl, mem X Y) _
      refine awi_p (i := .bipush 12) (len := 2) (by decide +kernel) rfl rfl ?_
      show awi ET G (d + 1) 175 (17, _, [.int (Int8.ofInt 12).toInt32, .int j], 231, sl, mem X Y) _
      refine awi_p (i := .if_icmp .gt 14) (len := 3) (by decide +kernel) rfl rfl ?_
      simp only [ai_p, ai_2i, ai_cn, ai_j]
      by_cases c2 : (Int8.ofInt 12).toInt32 < j
      · rw [if_pos c2, if_pos (by decide)]
        exact awi_0 ⟨rfl, rfl⟩
      rw [if_neg c2]
      show awi ET G (d + 1) 175 (20, _, [], 231, sl, mem X Y) _
      refine awi_p (i := .iload 5) (len := 2) (by decide +kernel) rfl rfl ?_
      show awi ET G (d + 1) 175 (22, _, [.int w], 231, sl, mem X Y) _
      refine awi_p (i := .ifCond .lt 9) (len := 3) (by decide +kernel) rfl rfl ?_
      simp only [ai_p, ai_1i, ai_cn, ai_j]
      by_cases c3 : w < 0
      · rw [if_pos c3, if_pos (by decide)]
        exact awi_0 ⟨rfl, rfl⟩
      rw [if_neg c3]
      show awi ET G (d + 1) 175 (25, _, [], 231, sl, mem X Y) _
      refine awi_p (i := .iload 5) (len := 2) (by decide +kernel) rfl rfl ?_
      show awi ET G (d + 1) 175 (27, _, [.int w], 231, sl, mem X Y) _
      refine awi_p (i := .iconst 1) (len := 1) (by decide +kernel) rfl rfl ?_
      show awi ET G (d + 1) 175 (28, _, [.int (Int32.ofInt 1), .int w], 231, sl, mem X Y) _
      refine awi_p (i := .if_icmp .le 14) (len := 3) (by decide +kernel) rfl rfl ?_
      simp only [ai_p, ai_2i, ai_cn, ai_j]
      by_cases c4 : w ≤ Int32.ofInt 1
      · exfalso
        have e1 : inI 0 12 j = true := by
          unfold inI
          rw [decide_eq_true_eq]
          exact ⟨Int32.not_lt.mp c1, Int32.not_lt.mp c2⟩
        have e2 : inI 0 1 w = true := by
          unfold inI
          rw [decide_eq_true_eq]
          exact ⟨Int32.not_lt.mp c3, c4⟩
        unfold okF at h
        rw [hg, e1, e2] at h
        cases h
      · rw [if_neg c4]
        exact awi_0 ⟨rfl, rfl⟩
end NSR
