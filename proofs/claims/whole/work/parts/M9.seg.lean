/-! THE LAW'S BODY: what stands about the calls that may throw -/
section LWE
variable {L sl i n : Nat} {xs : Nat → Int32} {X : mX} {Y : mY} {Z : ai_C → Prop}
theorem cmp_self (v : Int64) : lg_cmp v v = 0 := by simp [lg_cmp]
theorem of1 : Int32.ofInt 1 = 1 := by decide
theorem of0 : Int32.ofInt 0 = 0 := by decide
def sg1_pn : List (Nat × Instr × Nat) := (344, .aload_n 1, 1) :: (argL 345 1 2 ++ [(357, .aload_n 3, 1)])
theorem sg1_pn_ok : ckL sg1_pn = true := by decide +kernel
theorem sg1_pn_run {w : ai_L} (hL : L ≤ 3072) (hb : i + 6 ≤ L) (h : Z (358, lL i w, [.ref 230, .int (xs (i + 2)), .int (xs (i + 1)), .ref 0], 231, sl, mem X Y)) : awi ET (lG L xs) 61 289 (344, lL i w, [], 231, sl, mem X Y) Z := by
  obtain ⟨c0, hc⟩ := ckL_cons sg1_pn_ok
  obtain ⟨c1, hc⟩ := ckL_app hc
  obtain ⟨c2, -⟩ := ckL_cons hc
  refine awi_p c0 rfl rfl ?_
  show awi ET (lG L xs) 61 289 (345, lL i w, [.ref 0], 231, sl, mem X Y) Z
  refine awi_args hL 2 345 1 _ c1 (by omega) (by omega) ?_
  show awi ET (lG L xs) 61 289 (357, lL i w, [.int (xs (i + 2)), .int (xs (i + 1)), .ref 0], 231, sl, mem X Y) Z
  refine awi_p c2 rfl rfl ?_
  exact awi_0 h
def sg1_st : List (Nat × Instr × Nat) := (449, .aload_n 1, 1) :: (argL 450 1 2 ++ [(462, .aload_n 3, 1)])
theorem sg1_st_ok : ckL sg1_st = true := by decide +kernel
theorem sg1_st_run {w : ai_L} (hL : L ≤ 3072) (hb : i + 6 ≤ L) (h : Z (463, lL i w, [.ref 230, .int (xs (i + 2)), .int (xs (i + 1)), .ref 0], 231, sl, mem X Y)) : awi ET (lG L xs) 61 289 (449, lL i w, [], 231, sl, mem X Y) Z := by
  obtain ⟨c0, hc⟩ := ckL_cons sg1_st_ok
  obtain ⟨c1, hc⟩ := ckL_app hc
  obtain ⟨c2, -⟩ := ckL_cons hc
  refine awi_p c0 rfl rfl ?_
  show awi ET (lG L xs) 61 289 (450, lL i w, [.ref 0], 231, sl, mem X Y) Z
  refine awi_args hL 2 450 1 _ c1 (by omega) (by omega) ?_
  show awi ET (lG L xs) 61 289 (462, lL i w, [.int (xs (i + 2)), .int (xs (i + 1)), .ref 0], 231, sl, mem X Y) Z
  refine awi_p c2 rfl rfl ?_
  exact awi_0 h
def sg1_gf : List (Nat × Instr × Nat) := (917, .aload_n 1, 1) :: (argL 918 1 5 ++ [(948, .aload_n 3, 1)])
theorem sg1_gf_ok : ckL sg1_gf = true := by decide +kernel
theorem sg1_gf_run {w : ai_L} (hL : L ≤ 3072) (hb : i + 6 ≤ L) (h : Z (949, lL i w, [.ref 230, .int (xs (i + 5)), .int (xs (i + 4)), .int (xs (i + 3)), .int (xs (i + 2)), .int (xs (i + 1)), .ref 0], 231, sl, mem X Y)) : awi ET (lG L xs) 61 289 (917, lL i w, [], 231, sl, mem X Y) Z := by
  obtain ⟨c0, hc⟩ := ckL_cons sg1_gf_ok
  obtain ⟨c1, hc⟩ := ckL_app hc
  obtain ⟨c2, -⟩ := ckL_cons hc
  refine awi_p c0 rfl rfl ?_
  show awi ET (lG L xs) 61 289 (918, lL i w, [.ref 0], 231, sl, mem X Y) Z
  refine awi_args hL 5 918 1 _ c1 (by omega) (by omega) ?_
  show awi ET (lG L xs) 61 289 (948, lL i w, [.int (xs (i + 5)), .int (xs (i + 4)), .int (xs (i + 3)), .int (xs (i + 2)), .int (xs (i + 1)), .ref 0], 231, sl, mem X Y) Z
  refine awi_p c2 rfl rfl ?_
  exact awi_0 h
def sg2_pn : List (Nat × Instr × Nat) := (361, .istore 5, 2) :: (363, .aload_n 2, 1) :: (argL 364 1 2 ++ [(376, .invokevirtual 50, 3), (379, .istore 6, 2), (381, .aload_n 2, 1), (382, .invokevirtual 51, 3), (385, .iload 5, 2), (387, .if_icmp .eq 5, 3), (392, .iload 5, 2), (394, .ifCond .ne 15, 3), (397, .aload_n 3, 1), (398, .iconst 0, 1), (399, .laload, 1), (400, .iload 6, 2), (402, .i2l, 1), (403, .lcmp, 1), (404, .ifCond .eq 5, 3), (409, .goto (1577 - (409 : Int)), 3)])
theorem sg2_pn_ok : ckL sg2_pn = true := by decide +kernel
set_option maxHeartbeats 4000000 in
theorem sg2_pn_run {A1 B1 C1 : Option Value} {k t : Int32} {r : Int32} (hL : L ≤ 3072) (hb : i + 6 ≤ L)
    (hR : ∀ Q : List Value → Nat → Nat → ai_M → Prop, aw ET (lG L xs) 60 200 0 [some (.ref 199), some (.int (xs (i + 1))), some (.int (xs (i + 2)))] [] 231 sl (mem X Y) Q = Q [.int r] 231 sl (mem (tv X t) Y)) (hk : t = k) (hor : k = 1 ∨ (k = 0 ∧ Y 230 0 = r.toInt64))
    (hz : awi ET (lG L xs) 61 289 (1577, lL i [some (.int k), some (.int r), C1], [], 231, sl, mem (tv X t) Y) Z) : awi ET (lG L xs) 61 289 (361, lL i [A1, B1, C1], [.int k], 231, sl, mem X Y) Z := by
  obtain ⟨c0, hc⟩ := ckL_cons sg2_pn_ok
  obtain ⟨c1, hc⟩ := ckL_cons hc
  obtain ⟨ca, hc⟩ := ckL_app hc
  obtain ⟨d0, hc⟩ := ckL_cons hc
  obtain ⟨d1, hc⟩ := ckL_cons hc
  obtain ⟨d2, hc⟩ := ckL_cons hc
  obtain ⟨d3, hc⟩ := ckL_cons hc
  obtain ⟨d4, hc⟩ := ckL_cons hc
  obtain ⟨d5, hc⟩ := ckL_cons hc
  obtain ⟨d6, hc⟩ := ckL_cons hc
  obtain ⟨d7, hc⟩ := ckL_cons hc
  obtain ⟨d8, hc⟩ := ckL_cons hc
  obtain ⟨d9, hc⟩ := ckL_cons hc
  obtain ⟨d10, hc⟩ := ckL_cons hc
  obtain ⟨d11, hc⟩ := ckL_cons hc
  obtain ⟨d12, hc⟩ := ckL_cons hc
  obtain ⟨d13, hc⟩ := ckL_cons hc
  obtain ⟨d14, hc⟩ := ckL_cons hc
  obtain ⟨d15, hc⟩ := ckL_cons hc
  refine awi_p c0 rfl rfl ?_
  show awi ET (lG L xs) 61 289 (363, lL i [some (.int k), B1, C1], [], 231, sl, mem X Y) Z
  refine awi_p c1 rfl rfl ?_
  show awi ET (lG L xs) 61 289 (364, lL i [some (.int k), B1, C1], [.ref 199], 231, sl, mem X Y) Z
  refine awi_args hL 2 364 1 _ ca (by omega) (by omega) ?_
  show awi ET (lG L xs) 61 289 (376, lL i [some (.int k), B1, C1], [.int (xs (i + 2)), .int (xs (i + 1)), .ref 199], 231, sl, mem X Y) Z
  refine awi_call (d := 60) (mj := 200) (na := 2) d0 (by rw [ow289]; exact pl13_50) ?_ ?_ ?_
  · show (decide (199 < 231) && decide (12 = ai_own ET 200)) = true
    rw [ow200]
    rfl
  · rw [mx200]
    exact ⟨Nat.le_of_ble_eq_true rfl, Nat.le_of_ble_eq_true rfl, Nat.le_of_ble_eq_true rfl, Nat.le_of_ble_eq_true rfl⟩
  rw [mx200]
  show aw ET (lG L xs) 60 200 0 [some (.ref 199), some (.int (xs (i + 1))), some (.int (xs (i + 2)))] [] 231 sl (mem X Y) _
  rw [hR]
  show awi ET (lG L xs) 61 289 (379, lL i [some (.int k), B1, C1], [.int r], 231, sl, mem (tv X t) Y) Z
  refine awi_p d1 rfl rfl ?_
  show awi ET (lG L xs) 61 289 (381, lL i [some (.int k), some (.int r), C1], [], 231, sl, mem (tv X t) Y) Z
  refine awi_p d2 rfl rfl ?_
  show awi ET (lG L xs) 61 289 (382, lL i [some (.int k), some (.int r), C1], [.ref 199], 231, sl, mem (tv X t) Y) Z
  refine awi_call (d := 60) (mj := 177) (na := 0) d3 (by rw [ow289]; exact pl13_51) ?_ ?_ ?_
  · show (decide (199 < 231) && decide (12 = ai_own ET 177)) = true
    rw [ow177]
    rfl
  · rw [mx177]
    exact ⟨Nat.le_of_ble_eq_true rfl, Nat.le_of_ble_eq_true rfl, Nat.le_of_ble_eq_true rfl, Nat.le_of_ble_eq_true rfl⟩
  rw [mx177]
  show aw ET (lG L xs) 60 177 0 [some (.ref 199)] [] 231 sl (mem (tv X t) Y) _
  rw [thrown_eq]
  show awi ET (lG L xs) 61 289 (385, lL i [some (.int k), some (.int r), C1], [.int t], 231, sl, mem (tv X t) Y) Z
  refine awi_p d4 rfl rfl ?_
  show awi ET (lG L xs) 61 289 (387, lL i [some (.int k), some (.int r), C1], [.int k, .int t], 231, sl, mem (tv X t) Y) Z
  refine awi_p d5 rfl rfl ?_
  simp only [ai_p, ai_2i, ai_cn, ai_j]
  rw [if_pos hk, if_pos (by decide)]
  show awi ET (lG L xs) 61 289 (392, lL i [some (.int k), some (.int r), C1], [], 231, sl, mem (tv X t) Y) Z
  refine awi_p d6 rfl rfl ?_
  show awi ET (lG L xs) 61 289 (394, lL i [some (.int k), some (.int r), C1], [.int k], 231, sl, mem (tv X t) Y) Z
  refine awi_p d7 rfl rfl ?_
  simp only [ai_p, ai_1i, ai_cn, ai_j]
  have hend : awi ET (lG L xs) 61 289 (409, lL i [some (.int k), some (.int r), C1], [], 231, sl, mem (tv X t) Y) Z := by
    refine awi_p d15 rfl rfl ?_
    simp only [ai_p, ai_j]
    rw [if_pos (by decide)]
    exact hz
  rcases hor with h1 | ⟨h0, hv⟩
  · rw [if_neg (show ¬ k = 0 by rw [h1]; decide), if_pos (by decide)]
    exact hend
  · rw [if_pos h0]
    show awi ET (lG L xs) 61 289 (397, lL i [some (.int k), some (.int r), C1], [], 231, sl, mem (tv X t) Y) Z
    refine awi_p d8 rfl rfl ?_
    show awi ET (lG L xs) 61 289 (398, lL i [some (.int k), some (.int r), C1], [.ref 230], 231, sl, mem (tv X t) Y) Z
    refine awi_p d9 rfl rfl ?_
    show awi ET (lG L xs) 61 289 (399, lL i [some (.int k), some (.int r), C1], [.int (Int32.ofInt 0), .ref 230], 231, sl, mem (tv X t) Y) Z
    refine awi_m d10 rfl rfl ?_
    simp only [ai_m]
    rw [if_pos (by decide), mm230]
    dsimp only
    rw [if_pos (by decide)]
    show awi ET (lG L xs) 61 289 (400, lL i [some (.int k), some (.int r), C1], [.long (Y 230 0)], 231, sl, mem (tv X t) Y) Z
    rw [hv]
    refine awi_p d11 rfl rfl ?_
    show awi ET (lG L xs) 61 289 (402, lL i [some (.int k), some (.int r), C1], [.int r, .long r.toInt64], 231, sl, mem (tv X t) Y) Z
    refine awi_p d12 rfl rfl ?_
    show awi ET (lG L xs) 61 289 (403, lL i [some (.int k), some (.int r), C1], [.long r.toInt64, .long r.toInt64], 231, sl, mem (tv X t) Y) Z
    refine awi_p d13 rfl rfl ?_
    show awi ET (lG L xs) 61 289 (404, lL i [some (.int k), some (.int r), C1], [.int (lg_cmp r.toInt64 r.toInt64)], 231, sl, mem (tv X t) Y) Z
    rw [cmp_self]
    refine awi_p d14 rfl rfl ?_
    simp only [ai_p, ai_1i, ai_cn, ai_j]
    rw [if_pos trivial, if_pos (by decide)]
    exact hend
def sg2_st : List (Nat × Instr × Nat) := (466, .istore 5, 2) :: (468, .aload_n 2, 1) :: (argL 469 1 2 ++ [(481, .invokevirtual 60, 3), (484, .istore 6, 2), (486, .aload_n 2, 1), (487, .invokevirtual 51, 3), (490, .iload 5, 2), (492, .if_icmp .eq 5, 3), (497, .iload 5, 2), (499, .ifCond .ne 15, 3), (502, .aload_n 3, 1), (503, .iconst 0, 1), (504, .laload, 1), (505, .iload 6, 2), (507, .i2l, 1), (508, .lcmp, 1), (509, .ifCond .eq 5, 3), (514, .goto (1577 - (514 : Int)), 3)])
theorem sg2_st_ok : ckL sg2_st = true := by decide +kernel
set_option maxHeartbeats 4000000 in
theorem sg2_st_run {A1 B1 C1 : Option Value} {k t : Int32} {r : Int32} (hL : L ≤ 3072) (hb : i + 6 ≤ L)
    (hR : ∀ Q : List Value → Nat → Nat → ai_M → Prop, aw ET (lG L xs) 60 206 0 [some (.ref 199), some (.int (xs (i + 1))), some (.int (xs (i + 2)))] [] 231 sl (mem X Y) Q = Q [.int r] 231 sl (mem (tv X t) Y)) (hk : t = k) (hor : k = 1 ∨ (k = 0 ∧ Y 230 0 = r.toInt64))
    (hz : awi ET (lG L xs) 61 289 (1577, lL i [some (.int k), some (.int r), C1], [], 231, sl, mem (tv X t) Y) Z) : awi ET (lG L xs) 61 289 (466, lL i [A1, B1, C1], [.int k], 231, sl, mem X Y) Z := by
  obtain ⟨c0, hc⟩ := ckL_cons sg2_st_ok
  obtain ⟨c1, hc⟩ := ckL_cons hc
  obtain ⟨ca, hc⟩ := ckL_app hc
  obtain ⟨d0, hc⟩ := ckL_cons hc
  obtain ⟨d1, hc⟩ := ckL_cons hc
  obtain ⟨d2, hc⟩ := ckL_cons hc
  obtain ⟨d3, hc⟩ := ckL_cons hc
  obtain ⟨d4, hc⟩ := ckL_cons hc
  obtain ⟨d5, hc⟩ := ckL_cons hc
  obtain ⟨d6, hc⟩ := ckL_cons hc
  obtain ⟨d7, hc⟩ := ckL_cons hc
  obtain ⟨d8, hc⟩ := ckL_cons hc
  obtain ⟨d9, hc⟩ := ckL_cons hc
  obtain ⟨d10, hc⟩ := ckL_cons hc
  obtain ⟨d11, hc⟩ := ckL_cons hc
  obtain ⟨d12, hc⟩ := ckL_cons hc
  obtain ⟨d13, hc⟩ := ckL_cons hc
  obtain ⟨d14, hc⟩ := ckL_cons hc
  obtain ⟨d15, hc⟩ := ckL_cons hc
  refine awi_p c0 rfl rfl ?_
  show awi ET (lG L xs) 61 289 (468, lL i [some (.int k), B1, C1], [], 231, sl, mem X Y) Z
  refine awi_p c1 rfl rfl ?_
  show awi ET (lG L xs) 61 289 (469, lL i [some (.int k), B1, C1], [.ref 199], 231, sl, mem X Y) Z
  refine awi_args hL 2 469 1 _ ca (by omega) (by omega) ?_
  show awi ET (lG L xs) 61 289 (481, lL i [some (.int k), B1, C1], [.int (xs (i + 2)), .int (xs (i + 1)), .ref 199], 231, sl, mem X Y) Z
  refine awi_call (d := 60) (mj := 206) (na := 2) d0 (by rw [ow289]; exact pl13_60) ?_ ?_ ?_
  · show (decide (199 < 231) && decide (12 = ai_own ET 206)) = true
    rw [ow206]
    rfl
  · rw [mx206]
    exact ⟨Nat.le_of_ble_eq_true rfl, Nat.le_of_ble_eq_true rfl, Nat.le_of_ble_eq_true rfl, Nat.le_of_ble_eq_true rfl⟩
  rw [mx206]
  show aw ET (lG L xs) 60 206 0 [some (.ref 199), some (.int (xs (i + 1))), some (.int (xs (i + 2)))] [] 231 sl (mem X Y) _
  rw [hR]
  show awi ET (lG L xs) 61 289 (484, lL i [some (.int k), B1, C1], [.int r], 231, sl, mem (tv X t) Y) Z
  refine awi_p d1 rfl rfl ?_
  show awi ET (lG L xs) 61 289 (486, lL i [some (.int k), some (.int r), C1], [], 231, sl, mem (tv X t) Y) Z
  refine awi_p d2 rfl rfl ?_
  show awi ET (lG L xs) 61 289 (487, lL i [some (.int k), some (.int r), C1], [.ref 199], 231, sl, mem (tv X t) Y) Z
  refine awi_call (d := 60) (mj := 177) (na := 0) d3 (by rw [ow289]; exact pl13_51) ?_ ?_ ?_
  · show (decide (199 < 231) && decide (12 = ai_own ET 177)) = true
    rw [ow177]
    rfl
  · rw [mx177]
    exact ⟨Nat.le_of_ble_eq_true rfl, Nat.le_of_ble_eq_true rfl, Nat.le_of_ble_eq_true rfl, Nat.le_of_ble_eq_true rfl⟩
  rw [mx177]
  show aw ET (lG L xs) 60 177 0 [some (.ref 199)] [] 231 sl (mem (tv X t) Y) _
  rw [thrown_eq]
  show awi ET (lG L xs) 61 289 (490, lL i [some (.int k), some (.int r), C1], [.int t], 231, sl, mem (tv X t) Y) Z
  refine awi_p d4 rfl rfl ?_
  show awi ET (lG L xs) 61 289 (492, lL i [some (.int k), some (.int r), C1], [.int k, .int t], 231, sl, mem (tv X t) Y) Z
  refine awi_p d5 rfl rfl ?_
  simp only [ai_p, ai_2i, ai_cn, ai_j]
  rw [if_pos hk, if_pos (by decide)]
  show awi ET (lG L xs) 61 289 (497, lL i [some (.int k), some (.int r), C1], [], 231, sl, mem (tv X t) Y) Z
  refine awi_p d6 rfl rfl ?_
  show awi ET (lG L xs) 61 289 (499, lL i [some (.int k), some (.int r), C1], [.int k], 231, sl, mem (tv X t) Y) Z
  refine awi_p d7 rfl rfl ?_
  simp only [ai_p, ai_1i, ai_cn, ai_j]
  have hend : awi ET (lG L xs) 61 289 (514, lL i [some (.int k), some (.int r), C1], [], 231, sl, mem (tv X t) Y) Z := by
    refine awi_p d15 rfl rfl ?_
    simp only [ai_p, ai_j]
    rw [if_pos (by decide)]
    exact hz
  rcases hor with h1 | ⟨h0, hv⟩
  · rw [if_neg (show ¬ k = 0 by rw [h1]; decide), if_pos (by decide)]
    exact hend
  · rw [if_pos h0]
    show awi ET (lG L xs) 61 289 (502, lL i [some (.int k), some (.int r), C1], [], 231, sl, mem (tv X t) Y) Z
    refine awi_p d8 rfl rfl ?_
    show awi ET (lG L xs) 61 289 (503, lL i [some (.int k), some (.int r), C1], [.ref 230], 231, sl, mem (tv X t) Y) Z
    refine awi_p d9 rfl rfl ?_
    show awi ET (lG L xs) 61 289 (504, lL i [some (.int k), some (.int r), C1], [.int (Int32.ofInt 0), .ref 230], 231, sl, mem (tv X t) Y) Z
    refine awi_m d10 rfl rfl ?_
    simp only [ai_m]
    rw [if_pos (by decide), mm230]
    dsimp only
    rw [if_pos (by decide)]
    show awi ET (lG L xs) 61 289 (505, lL i [some (.int k), some (.int r), C1], [.long (Y 230 0)], 231, sl, mem (tv X t) Y) Z
    rw [hv]
    refine awi_p d11 rfl rfl ?_
    show awi ET (lG L xs) 61 289 (507, lL i [some (.int k), some (.int r), C1], [.int r, .long r.toInt64], 231, sl, mem (tv X t) Y) Z
    refine awi_p d12 rfl rfl ?_
    show awi ET (lG L xs) 61 289 (508, lL i [some (.int k), some (.int r), C1], [.long r.toInt64, .long r.toInt64], 231, sl, mem (tv X t) Y) Z
    refine awi_p d13 rfl rfl ?_
    show awi ET (lG L xs) 61 289 (509, lL i [some (.int k), some (.int r), C1], [.int (lg_cmp r.toInt64 r.toInt64)], 231, sl, mem (tv X t) Y) Z
    rw [cmp_self]
    refine awi_p d14 rfl rfl ?_
    simp only [ai_p, ai_1i, ai_cn, ai_j]
    rw [if_pos trivial, if_pos (by decide)]
    exact hend
def sg2_gf : List (Nat × Instr × Nat) := (952, .istore 5, 2) :: (954, .aload_n 2, 1) :: (argL 955 1 5 ++ [(985, .invokevirtual 130, 3), (988, .lstore 6, 2), (990, .aload_n 2, 1), (991, .invokevirtual 51, 3), (994, .iload 5, 2), (996, .if_icmp .eq 5, 3), (1001, .iload 5, 2), (1003, .ifCond .ne 14, 3), (1006, .aload_n 3, 1), (1007, .iconst 0, 1), (1008, .laload, 1), (1009, .lload 6, 2), (1011, .lcmp, 1), (1012, .ifCond .eq 5, 3), (1017, .goto (1577 - (1017 : Int)), 3)])
theorem sg2_gf_ok : ckL sg2_gf = true := by decide +kernel
set_option maxHeartbeats 4000000 in
theorem sg2_gf_run {A1 B1 C1 : Option Value} {k t : Int32} {r : Int64} (hL : L ≤ 3072) (hb : i + 6 ≤ L)
    (hR : ∀ Q : List Value → Nat → Nat → ai_M → Prop, aw ET (lG L xs) 60 245 0 [some (.ref 199), some (.int (xs (i + 1))), some (.int (xs (i + 2))), some (.int (xs (i + 3))), some (.int (xs (i + 4))), some (.int (xs (i + 5))), none, none, none, none] [] 231 sl (mem X Y) Q = Q [.long r] 231 sl (mem (tv X t) Y)) (hk : t = k) (hor : k = 1 ∨ (k = 0 ∧ Y 230 0 = r))
    (hz : awi ET (lG L xs) 61 289 (1577, lL i [some (.int k), some (.long r), none], [], 231, sl, mem (tv X t) Y) Z) : awi ET (lG L xs) 61 289 (952, lL i [A1, B1, C1], [.int k], 231, sl, mem X Y) Z := by
  obtain ⟨c0, hc⟩ := ckL_cons sg2_gf_ok
  obtain ⟨c1, hc⟩ := ckL_cons hc
  obtain ⟨ca, hc⟩ := ckL_app hc
  obtain ⟨d0, hc⟩ := ckL_cons hc
  obtain ⟨d1, hc⟩ := ckL_cons hc
  obtain ⟨d2, hc⟩ := ckL_cons hc
  obtain ⟨d3, hc⟩ := ckL_cons hc
  obtain ⟨d4, hc⟩ := ckL_cons hc
  obtain ⟨d5, hc⟩ := ckL_cons hc
  obtain ⟨d6, hc⟩ := ckL_cons hc
  obtain ⟨d7, hc⟩ := ckL_cons hc
  obtain ⟨d8, hc⟩ := ckL_cons hc
  obtain ⟨d9, hc⟩ := ckL_cons hc
  obtain ⟨d10, hc⟩ := ckL_cons hc
  obtain ⟨d11, hc⟩ := ckL_cons hc
  obtain ⟨d12, hc⟩ := ckL_cons hc
  obtain ⟨d13, hc⟩ := ckL_cons hc
  obtain ⟨d14, hc⟩ := ckL_cons hc
  refine awi_p c0 rfl rfl ?_
  show awi ET (lG L xs) 61 289 (954, lL i [some (.int k), B1, C1], [], 231, sl, mem X Y) Z
  refine awi_p c1 rfl rfl ?_
  show awi ET (lG L xs) 61 289 (955, lL i [some (.int k), B1, C1], [.ref 199], 231, sl, mem X Y) Z
  refine awi_args hL 5 955 1 _ ca (by omega) (by omega) ?_
  show awi ET (lG L xs) 61 289 (985, lL i [some (.int k), B1, C1], [.int (xs (i + 5)), .int (xs (i + 4)), .int (xs (i + 3)), .int (xs (i + 2)), .int (xs (i + 1)), .ref 199], 231, sl, mem X Y) Z
  refine awi_call (d := 60) (mj := 245) (na := 5) d0 (by rw [ow289]; exact pl13_130) ?_ ?_ ?_
  · show (decide (199 < 231) && decide (12 = ai_own ET 245)) = true
    rw [ow245]
    rfl
  · rw [mx245]
    exact ⟨Nat.le_of_ble_eq_true rfl, Nat.le_of_ble_eq_true rfl, Nat.le_of_ble_eq_true rfl, Nat.le_of_ble_eq_true rfl⟩
  rw [mx245]
  show aw ET (lG L xs) 60 245 0 [some (.ref 199), some (.int (xs (i + 1))), some (.int (xs (i + 2))), some (.int (xs (i + 3))), some (.int (xs (i + 4))), some (.int (xs (i + 5))), none, none, none, none] [] 231 sl (mem X Y) _
  rw [hR]
  show awi ET (lG L xs) 61 289 (988, lL i [some (.int k), B1, C1], [.long r], 231, sl, mem (tv X t) Y) Z
  refine awi_p d1 rfl rfl ?_
  show awi ET (lG L xs) 61 289 (990, lL i [some (.int k), some (.long r), none], [], 231, sl, mem (tv X t) Y) Z
  refine awi_p d2 rfl rfl ?_
  show awi ET (lG L xs) 61 289 (991, lL i [some (.int k), some (.long r), none], [.ref 199], 231, sl, mem (tv X t) Y) Z
  refine awi_call (d := 60) (mj := 177) (na := 0) d3 (by rw [ow289]; exact pl13_51) ?_ ?_ ?_
  · show (decide (199 < 231) && decide (12 = ai_own ET 177)) = true
    rw [ow177]
    rfl
  · rw [mx177]
    exact ⟨Nat.le_of_ble_eq_true rfl, Nat.le_of_ble_eq_true rfl, Nat.le_of_ble_eq_true rfl, Nat.le_of_ble_eq_true rfl⟩
  rw [mx177]
  show aw ET (lG L xs) 60 177 0 [some (.ref 199)] [] 231 sl (mem (tv X t) Y) _
  rw [thrown_eq]
  show awi ET (lG L xs) 61 289 (994, lL i [some (.int k), some (.long r), none], [.int t], 231, sl, mem (tv X t) Y) Z
  refine awi_p d4 rfl rfl ?_
  show awi ET (lG L xs) 61 289 (996, lL i [some (.int k), some (.long r), none], [.int k, .int t], 231, sl, mem (tv X t) Y) Z
  refine awi_p d5 rfl rfl ?_
  simp only [ai_p, ai_2i, ai_cn, ai_j]
  rw [if_pos hk, if_pos (by decide)]
  show awi ET (lG L xs) 61 289 (1001, lL i [some (.int k), some (.long r), none], [], 231, sl, mem (tv X t) Y) Z
  refine awi_p d6 rfl rfl ?_
  show awi ET (lG L xs) 61 289 (1003, lL i [some (.int k), some (.long r), none], [.int k], 231, sl, mem (tv X t) Y) Z
  refine awi_p d7 rfl rfl ?_
  simp only [ai_p, ai_1i, ai_cn, ai_j]
  have hend : awi ET (lG L xs) 61 289 (1017, lL i [some (.int k), some (.long r), none], [], 231, sl, mem (tv X t) Y) Z := by
    refine awi_p d14 rfl rfl ?_
    simp only [ai_p, ai_j]
    rw [if_pos (by decide)]
    exact hz
  rcases hor with h1 | ⟨h0, hv⟩
  · rw [if_neg (show ¬ k = 0 by rw [h1]; decide), if_pos (by decide)]
    exact hend
  · rw [if_pos h0]
    show awi ET (lG L xs) 61 289 (1006, lL i [some (.int k), some (.long r), none], [], 231, sl, mem (tv X t) Y) Z
    refine awi_p d8 rfl rfl ?_
    show awi ET (lG L xs) 61 289 (1007, lL i [some (.int k), some (.long r), none], [.ref 230], 231, sl, mem (tv X t) Y) Z
    refine awi_p d9 rfl rfl ?_
    show awi ET (lG L xs) 61 289 (1008, lL i [some (.int k), some (.long r), none], [.int (Int32.ofInt 0), .ref 230], 231, sl, mem (tv X t) Y) Z
    refine awi_m d10 rfl rfl ?_
    simp only [ai_m]
    rw [if_pos (by decide), mm230]
    dsimp only
    rw [if_pos (by decide)]
    show awi ET (lG L xs) 61 289 (1009, lL i [some (.int k), some (.long r), none], [.long (Y 230 0)], 231, sl, mem (tv X t) Y) Z
    rw [hv]
    refine awi_p d11 rfl rfl ?_
    show awi ET (lG L xs) 61 289 (1011, lL i [some (.int k), some (.long r), none], [.long r, .long r], 231, sl, mem (tv X t) Y) Z
    refine awi_p d12 rfl rfl ?_
    show awi ET (lG L xs) 61 289 (1012, lL i [some (.int k), some (.long r), none], [.int (lg_cmp r r)], 231, sl, mem (tv X t) Y) Z
    rw [cmp_self]
    refine awi_p d13 rfl rfl ?_
    simp only [ai_p, ai_1i, ai_cn, ai_j]
    rw [if_pos trivial, if_pos (by decide)]
    exact hend
/-- the relation, when what the law keeps of the answer is written -/
theorem WW_out {f : Nat → Int64} {t : Int32} (h : WW n X Y) : WW (n + 1) (tv X t) (va_up Y 230 f) := by
  refine WW_tz ?_
  have h' := WW_mono h
  have ey : ∀ k, ¬ k = 230 → va_up Y 230 f k = Y k := fun k hk => by simp [va_up, hk]
  refine WW_gen (X' := X) (Y' := va_up Y 230 f) h (fun _ _ => rfl) (fun _ _ => rfl) rfl (fun k hk => ey k (by unfold cky at hk; omega)) h'.1 h'.2.1 h'.2.2.1 h'.2.2.2.2.2.2.2.1 ?_ h'.2.2.2.2.2.2.2.2.2.2.2.2
  rw [ey 204 (by omega), ey 48 (by omega), ey 51 (by omega)]
  exact h'.now
end LWE
