/-! THE LAW'S BODY: the loop's head, the switch, the loop's end -/
section LWD
variable {L n sl i : Nat} {xs : Nat → Int32} {X : mX} {Y : mY} {w : ai_L} {Z : ai_C → Prop} {M : ai_M}
theorem sw_40 : ai_dec ET 289 40 = some (.tableswitch 1537 0 40 #[180, 253, 278, 291, 304, 372, 409, 477, 502, 551, 600, 649, 674, 687, 700, 713, 726, 751, 764, 777, 802, 827, 852, 877, 980, 1053, 1102, 1139, 1176, 1201, 1214, 1251, 1300, 1349, 1374, 1399, 1424, 1437, 1462, 1487, 1512], 180) := by decide +kernel
def tgL : List Nat := [220, 293, 318, 331, 344, 412, 449, 517, 542, 591, 640, 689, 714, 727, 740, 753, 766, 791, 804, 817, 842, 867, 892, 917, 1020, 1093, 1142, 1179, 1216, 1241, 1254, 1291, 1340, 1389, 1414, 1439, 1464, 1477, 1502, 1527, 1552]
def tgt (m : Nat) : Nat := tgL.getD m 1577
theorem tg_off : ∀ m : Nat, m < 41 → (#[180, 253, 278, 291, 304, 372, 409, 477, 502, 551, 600, 649, 674, 687, 700, 713, 726, 751, 764, 777, 802, 827, 852, 877, 980, 1053, 1102, 1139, 1176, 1201, 1214, 1251, 1300, 1349, 1374, 1399, 1424, 1437, 1462, 1487, 1512] : Array Int)[m]? = some ((tgt m : Int) - 40) := by decide +kernel
theorem tg_le : ∀ m : Nat, m < 41 → 40 ≤ tgt m := by decide +kernel
theorem head_sw {m : Nat} (hm : m < 64) (h : awi ET (lG L xs) 61 289 (tgt m, lL i w, [], 231, sl, M) Z) : awi ET (lG L xs) 61 289 (40, lL i w, [.int (nI m)], 231, sl, M) Z := by
  refine awi_sw sw_40 rfl ?_
  simp only [ai_sw, ai_1i]
  have e : (nI m).toInt = (m : Int) := nI_toInt (by omega)
  rw [e]
  by_cases c : 40 < m
  · rw [if_pos (Or.inr (by omega))]
    have et : tgt m = 1577 := by
      unfold tgt
      rw [List.getD_eq_getElem?_getD, List.getElem?_eq_none (by show 41 ≤ m; omega)]
      rfl
    rw [et] at h
    simp only [ai_j]
    rw [if_pos (by decide)]
    exact h
  · rw [if_neg (by omega), show ((m : Int) - 0).toNat = m by omega, tg_off m (by omega)]
    have h40 := tg_le m (by omega)
    simp only [ai_j]
    rw [show ((40 : Nat) : Int) + ((tgt m : Int) - 40) = (tgt m : Int) by omega, if_pos (by omega)]
    exact h
theorem cmp_in (hL : L ≤ 3072) (h : i + 6 ≤ L) : ¬ nI L - nI 6 < nI i := by
  rw [pk_sub (by omega), nI_ltI (by omega) (by omega)]
  omega
theorem cmp_low : ∀ L : Nat, L < 6 → (nI L - nI 6).toInt < 0 := by decide +kernel
theorem cmp_out (hL : L ≤ 3072) (hi : i ≤ 4000) (h : L < i + 6) : nI L - nI 6 < nI i := by
  by_cases c : 6 ≤ L
  · rw [pk_sub c, nI_ltI (by omega) (by omega)]
    omega
  · rw [Int32.lt_iff_toInt_lt, nI_toInt (by omega)]
    have := cmp_low L (by omega)
    omega
theorem bi6 : (Int8.ofInt 6).toInt32 = nI 6 := by decide +kernel
theorem bi63 : (Int8.ofInt 63).toInt32 = 63 := by decide +kernel
def hdL : List (Nat × Instr × Nat) := [(23, .iload 4, 2), (25, .aload_n 0, 1), (26, .arraylength, 1), (27, .bipush 6, 2), (29, .isub, 1), (30, .if_icmp .gt 1553, 3), (33, .aload_n 0, 1), (34, .iload 4, 2), (36, .iaload, 1), (37, .bipush 63, 2), (39, .iand, 1), (1577, .iinc 4 6, 3), (1580, .goto (-1557), 3), (1583, .iconst 1, 1), (1584, .ireturn, 1)]
theorem hd_ok : ckL hdL = true := by decide +kernel
theorem hd_at (k : Nat) {q : Nat} {j : Instr} {len : Nat} (h : hdL[k]? = some (q, j, len)) : ai_dec ET 289 q = some (j, len) := ckL_mem hd_ok (List.mem_of_getElem? h)
theorem head_cmp (h : awi ET (lG L xs) 61 289 (30, lL i w, [.int (nI L - nI 6), .int (nI i)], 231, sl, M) Z) : awi ET (lG L xs) 61 289 (23, lL i w, [], 231, sl, M) Z := by
  refine awi_p (hd_at 0 rfl) rfl rfl ?_
  show awi ET (lG L xs) 61 289 (25, lL i w, [.int (nI i)], 231, sl, M) Z
  refine awi_p (hd_at 1 rfl) rfl rfl ?_
  show awi ET (lG L xs) 61 289 (26, lL i w, [.ref 1000000, .int (nI i)], 231, sl, M) Z
  refine awi_m (hd_at 2 rfl) rfl rfl ?_
  simp only [ai_m]
  rw [if_neg (by decide), if_pos trivial]
  show awi ET (lG L xs) 61 289 (27, lL i w, [.int (nI L), .int (nI i)], 231, sl, M) Z
  refine awi_p (hd_at 3 rfl) rfl rfl ?_
  show awi ET (lG L xs) 61 289 (29, lL i w, [.int (Int8.ofInt 6).toInt32, .int (nI L), .int (nI i)], 231, sl, M) Z
  rw [bi6]
  refine awi_p (hd_at 4 rfl) rfl rfl ?_
  exact h
theorem head_out (hL : L ≤ 3072) (hi : i ≤ 4000) (hb : L < i + 6) (h : Z (1584, lL i w, [.int 1], 231, sl, M)) : awi ET (lG L xs) 61 289 (23, lL i w, [], 231, sl, M) Z := by
  refine head_cmp ?_
  refine awi_p (hd_at 5 rfl) rfl rfl ?_
  simp only [ai_p, ai_2i, ai_cn, ai_j]
  rw [if_pos (cmp_out hL hi hb), if_pos (by decide)]
  show awi ET (lG L xs) 61 289 (1583, lL i w, [], 231, sl, M) Z
  refine awi_p (hd_at 13 rfl) rfl rfl ?_
  exact awi_0 h
theorem head_in (hL : L ≤ 3072) (hb : i + 6 ≤ L) (h : ∀ m, m < 64 → xs i &&& 63 = nI m → awi ET (lG L xs) 61 289 (tgt m, lL i w, [], 231, sl, M) Z) : awi ET (lG L xs) 61 289 (23, lL i w, [], 231, sl, M) Z := by
  refine head_cmp ?_
  refine awi_p (hd_at 5 rfl) rfl rfl ?_
  simp only [ai_p, ai_2i, ai_cn, ai_j]
  rw [if_neg (cmp_in hL hb)]
  show awi ET (lG L xs) 61 289 (33, lL i w, [], 231, sl, M) Z
  refine awi_p (hd_at 6 rfl) rfl rfl ?_
  show awi ET (lG L xs) 61 289 (34, lL i w, [.ref 1000000], 231, sl, M) Z
  refine awi_p (hd_at 7 rfl) rfl rfl ?_
  show awi ET (lG L xs) 61 289 (36, lL i w, [.int (nI i), .ref 1000000], 231, sl, M) Z
  refine awi_m (hd_at 8 rfl) rfl rfl ?_
  simp only [ai_m]
  have hib : ai_ib (nI i) (lG L xs).2.1 = true := ib_nI (N := L) (show i < L by omega) (by omega)
  rw [if_neg (by decide), if_pos ⟨trivial, hib⟩, nI_clamp (by omega)]
  show awi ET (lG L xs) 61 289 (37, lL i w, [.int (xs i)], 231, sl, M) Z
  refine awi_p (hd_at 9 rfl) rfl rfl ?_
  show awi ET (lG L xs) 61 289 (39, lL i w, [.int (Int8.ofInt 63).toInt32, .int (xs i)], 231, sl, M) Z
  rw [bi63]
  refine awi_p (hd_at 10 rfl) rfl rfl ?_
  show awi ET (lG L xs) 61 289 (40, lL i w, [.int (xs i &&& 63)], 231, sl, M) Z
  obtain ⟨m, hm, em⟩ := pk_andE (xs i) (m := 63) 6 (by decide)
  rw [em]
  exact head_sw hm (h m hm em)
theorem i6 : Int32.ofInt 6 = nI 6 := by decide +kernel
theorem tail (h : Z (23, lL (i + 6) w, [], 231, sl, M)) : awi ET (lG L xs) 61 289 (1577, lL i w, [], 231, sl, M) Z := by
  refine awi_p (hd_at 11 rfl) rfl rfl ?_
  have hw : 4 < (lL i w).length := by unfold lL; simp
  simp only [ai_p]
  rw [show ai_at (lL i w) 4 = some (.int (nI i)) from rfl]
  dsimp only
  rw [if_pos hw, i6, nI_add]
  show awi ET (lG L xs) 61 289 (1580, lL (i + 6) w, [], 231, sl, M) Z
  refine awi_p (hd_at 12 rfl) rfl rfl ?_
  exact awi_0 h
/-- one round of the loop, where nothing may be thrown -/
theorem round {m : Nat} (hL : L ≤ 3072) (hb : i + 6 ≤ L) (hn : n ≤ 512) (h : WW n X Y) (hm : m < 64) (h4 : ¬ m = 4) (h6 : ¬ m = 6) (h23 : ¬ m = 23) : awi ET (lG L xs) 61 289 (tgt m, lL i w, [], 231, sl, mem X Y) (fun z => ∃ X' Y', WW (n + 1) X' Y' ∧ z = (23, lL (i + 6) w, [], 231, sl, mem X' Y')) := by
  have hz : ∀ X' Y', WW (n + 1) X' Y' → awi ET (lG L xs) 61 289 (1577, lL i w, [], 231, sl, mem X' Y') (fun z => ∃ X' Y', WW (n + 1) X' Y' ∧ z = (23, lL (i + 6) w, [], 231, sl, mem X' Y')) := fun X' Y' hw => tail ⟨X', Y', hw, rfl⟩
  by_cases c : m < 41
  · match m, c, h4, h6, h23 with
    | 0, _, _, _, _ => exact op_feed hL hb hn h hz
    | 1, _, _, _, _ => exact op_end hL hb hn h hz
    | 2, _, _, _, _ => exact op_town hL hb hn h hz
    | 3, _, _, _, _ => exact op_fault hL hb hn h hz
    | 4, _, h4, _, _ => exact absurd rfl h4
    | 5, _, _, _, _ => exact op_owes hL hb hn h hz
    | 6, _, _, h6, _ => exact absurd rfl h6
    | 7, _, _, _, _ => exact op_now hL hb hn h hz
    | 8, _, _, _, _ => exact op_why hL hb hn h hz
    | 9, _, _, _, _ => exact op_hear hL hb hn h hz
    | 10, _, _, _, _ => exact op_tell hL hb hn h hz
    | 11, _, _, _, _ => exact op_days hL hb hn h hz
    | 12, _, _, _, _ => exact op_strike hL hb hn h hz
    | 13, _, _, _, _ => exact op_struck hL hb hn h hz
    | 14, _, _, _, _ => exact op_undo hL hb hn h hz
    | 15, _, _, _, _ => exact op_ring hL hb hn h hz
    | 16, _, _, _, _ => exact op_ringAt hL hb hn h hz
    | 17, _, _, _, _ => exact op_next hL hb hn h hz
    | 18, _, _, _, _ => exact op_hour hL hb hn h hz
    | 19, _, _, _, _ => exact op_with hL hb hn h hz
    | 20, _, _, _, _ => exact op_prices hL hb hn h hz
    | 21, _, _, _, _ => exact op_price hL hb hn h hz
    | 22, _, _, _, _ => exact op_wants hL hb hn h hz
    | 23, _, _, _, h23 => exact absurd rfl h23
    | 24, _, _, _, _ => exact op_saved hL hb hn h hz
    | 25, _, _, _, _ => exact op_sermon hL hb hn h hz
    | 26, _, _, _, _ => exact op_crowd hL hb hn h hz
    | 27, _, _, _, _ => exact op_sold hL hb hn h hz
    | 28, _, _, _, _ => exact op_best hL hb hn h hz
    | 29, _, _, _, _ => exact op_talked hL hb hn h hz
    | 30, _, _, _, _ => exact op_talk hL hb hn h hz
    | 31, _, _, _, _ => exact op_drawn hL hb hn h hz
    | 32, _, _, _, _ => exact op_odds hL hb hn h hz
    | 33, _, _, _, _ => exact op_most hL hb hn h hz
    | 34, _, _, _, _ => exact op_book hL hb hn h hz
    | 35, _, _, _, _ => exact op_booked hL hb hn h hz
    | 36, _, _, _, _ => exact op_sentence hL hb hn h hz
    | 37, _, _, _, _ => exact op_said hL hb hn h hz
    | 38, _, _, _, _ => exact op_image hL hb hn h hz
    | 39, _, _, _, _ => exact op_restore hL hb hn h hz
    | 40, _, _, _, _ => exact op_count hL hb hn h hz
    | m + 41, c, _, _, _ => exact absurd c (by omega)
  · have et : tgt m = 1577 := by
      unfold tgt
      rw [List.getD_eq_getElem?_getD, List.getElem?_eq_none (by show 41 ≤ m; omega)]
      rfl
    rw [et]
    exact hz X Y (WW_mono h)
end LWD
