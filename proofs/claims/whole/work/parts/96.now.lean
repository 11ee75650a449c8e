/-! THE CLASS'S OWN METHODS, V: now, sermon, person, story -/
section TWN2
variable {G : ai_G} {d sl : Nat} {Q : List Value → Nat → Nat → ai_M → Prop} {P S : Nat} {Y : mY} {X : mX} {l l' k : Nat → Nat → Int32}
def ushI (i : Int32) (c : Nat) : Int32 := (i.toUInt32 >>> ((nI c).toUInt32 &&& Int32.toUInt32 31)).toInt32
def bc1 (i : Int32) : Int32 := i - (ushI i 1 &&& 1431655765)
def bc2 (i : Int32) : Int32 := (i &&& 858993459) + (ushI i 2 &&& 858993459)
def bc3 (i : Int32) : Int32 := (i + ushI i 4) &&& 252645135
def bc4 (i : Int32) : Int32 := i + ushI i 8
def bc5 (i : Int32) : Int32 := i + ushI i 16
def bcI (i : Int32) : Int32 := bc5 (bc4 (bc3 (bc2 (bc1 i)))) &&& nI 63
set_option maxHeartbeats 4000000 in
theorem bitCount_eq {n : Nat} {M : ai_M} {x : Int32} : aw ET G d 64 0 [some (.int x)] [] n sl M Q = Q [.int (bcI x)] n sl M := by
  have e1 : (Int32.ofNat 1431655765) = (1431655765 : Int32) := rfl
  have e2 : (Int32.ofNat 858993459) = (858993459 : Int32) := rfl
  have e3 : (Int32.ofNat 252645135) = (252645135 : Int32) := rfl
  simp (disch := omega) [w64_0, w64_1, w64_2, w64_3, w64_4, w64_7, w64_8, w64_9, w64_10, w64_11, w64_14, w64_15, w64_16, w64_17, w64_18, w64_21, w64_22, w64_23, w64_24, w64_25, w64_26, w64_27, w64_28, w64_29, w64_32, w64_33, w64_34, w64_35, w64_36, w64_38, w64_39, w64_40, w64_41, w64_42, w64_43, w64_45, w64_46, w64_47, w64_48, w64_49, w64_51, w64_52, ow64, rt64, in64, pl14_265, pl14_266, pl14_267, aw_st, ai_cls, ai_len, ai_p, ai_sw, ai_m, ai_c, ai_at, ai_isI, ai_isJ, ai_isA, ai_ld, ai_1i, ai_2i, ai_2l, ai_cn, ai_j, ai_set, ai_set2, ai_nl, ai_rs, ai_sm, Value.category, hk0, hk1, lits, litb, litm, litm2, List.getElem?_cons_zero, List.getElem?_cons_succ, or_n0, bit_r, fi0, fi1, fi2, fi3, nI_toInt, nI_add, pk_mul, nI_leI, nI_ltI, nI_eq, pk_sub, ib_nI, nI_clamp, va_up_self, va_up_ne, va_up_up, va_up_comm, pk_us, pk_un, upd_up, updL_up, pk_uLs, pk_uLn, b01_1, b01_0, b01_1s, b01_0s, or_b, e1, e2, e3, bcI, bc1, bc2, bc3, bc4, bc5, ushI]
def pcN (v : Nat) : Nat := v % 2 + v / 2 % 2 + v / 4 % 2 + v / 8 % 2 + v / 16 % 2 + v / 32 % 2 + v / 64 % 2 + v / 128 % 2
theorem bcI_nat : ∀ v, v < 256 → bcI (nI v) = nI (pcN v) := by
  have h : (List.range 256).all (fun v => bcI (nI v) == nI (pcN v)) = true := by decide +kernel
  intro v hv
  have := List.all_eq_true.mp h v (List.mem_range.mpr hv)
  exact eq_of_beq this
theorem rb_nat : ∀ v, v < 256 → rsum (fun p => b01 (bit (nI v) (nI p) = 1)) 0 8 0 = nI (pcN v) := by
  have h : (List.range 256).all (fun v => rsum (fun p => b01 (bit (nI v) (nI p) = 1)) 0 8 0 == nI (pcN v)) = true := by decide +kernel
  intro v hv
  have := List.all_eq_true.mp h v (List.mem_range.mpr hv)
  exact eq_of_beq this
set_option maxHeartbeats 4000000 in
theorem tnow_eq {x : Int32} (hR : ∃ v, v < 256 ∧ lv X 61 9 0 = nI v) : aw ET G (d + 3) 60 0 [some (.ref 0), some (.int x), none] [] 231 sl (mem X Y) Q = Q [.int (nowV (lv X 61) x)] 231 sl (mem X Y) := by
  have hh : ∀ (Q : List Value → Nat → Nat → ai_M → Prop), aw ET G (d + 2) 61 0 [some (.ref 61), none, none] [] 231 sl (mem X Y) Q = Q [.int (rsum (lv X 61 3) 0 8 0)] 231 sl (mem X Y) := fun Q => allHeard_eq (lf_mem' (Or.inl rfl))
  have ho : ∀ (Q : List Value → Nat → Nat → ai_M → Prop), aw ET G (d + 2) 62 0 [some (.ref 61), none, none] [] 231 sl (mem X Y) Q = Q [.int (dsum (lv X 61 5) 0 8 0)] 231 sl (mem X Y) := fun Q => allOwed_eq (lf_mem' (Or.inl rfl))
  have hn : ∀ (Q : List Value → Nat → Nat → ai_M → Prop), aw ET G (d + 2) 65 0 [some (.ref 61), none, none] [] 231 sl (mem X Y) Q = Q [.int (rsum (lv X 61 1) 0 8 0)] 231 sl (mem X Y) := fun Q => allNeeds_eq (lf_mem' (Or.inl rfl))
  obtain ⟨v, hv, ev⟩ := hR
  have er : rbit (lv X 61) = bcI (X 61 9) := by
    unfold rbit
    rw [ev, rb_nat v hv, show X 61 9 = nI v from ev, bcI_nat v hv]
  unfold nowV
  cases hx : pI 8 x
  · rcases pI_out (P := 8) (by omega) hx with h | h
    · simp (disch := omega) [w60_0, x60_1_0, x60_4_55, w60_7, w60_8, w60_9, w60_56, x60_57_61, w60_60, w60_61, x60_62_61, w60_65, w60_66, x60_67_61, w60_70, w60_71, x60_72_61, w60_75, w60_76, x60_77_61, x60_80, w60_83, w60_84, x60_85_61, w60_88, w60_89, x60_90_61, w60_93, w60_94, x60_95_61, w60_98, w60_99, w60_100, rt60, aw_st, ai_cls, ai_len, ai_p, ai_sw, ai_m, ai_c, ai_at, ai_isI, ai_isJ, ai_isA, ai_ld, ai_1i, ai_2i, ai_2l, ai_cn, ai_j, ai_set, ai_set2, ai_nl, ai_rs, ai_sm, Value.category, hk0, hk1, lits, litb, litm, litm2, List.getElem?_cons_zero, List.getElem?_cons_succ, or_n0, bit_r, fi0, fi1, fi2, fi3, nI_toInt, nI_add, pk_mul, nI_leI, nI_ltI, nI_eq, pk_sub, ib_nI, nI_clamp, va_up_self, va_up_ne, va_up_up, va_up_comm, pk_us, pk_un, upd_up, updL_up, pk_uLs, pk_uLn, b01_1, b01_0, b01_1s, b01_0s, or_b, h, show x.toInt < 0 ∨ 7 < x.toInt by omega]
    · simp (disch := omega) [w60_0, x60_1_0, x60_4_55, w60_7, w60_8, w60_9, w60_56, x60_57_61, w60_60, w60_61, x60_62_61, w60_65, w60_66, x60_67_61, w60_70, w60_71, x60_72_61, w60_75, w60_76, x60_77_61, x60_80, w60_83, w60_84, x60_85_61, w60_88, w60_89, x60_90_61, w60_93, w60_94, x60_95_61, w60_98, w60_99, w60_100, rt60, aw_st, ai_cls, ai_len, ai_p, ai_sw, ai_m, ai_c, ai_at, ai_isI, ai_isJ, ai_isA, ai_ld, ai_1i, ai_2i, ai_2l, ai_cn, ai_j, ai_set, ai_set2, ai_nl, ai_rs, ai_sm, Value.category, hk0, hk1, lits, litb, litm, litm2, List.getElem?_cons_zero, List.getElem?_cons_succ, or_n0, bit_r, fi0, fi1, fi2, fi3, nI_toInt, nI_add, pk_mul, nI_leI, nI_ltI, nI_eq, pk_sub, ib_nI, nI_clamp, va_up_self, va_up_ne, va_up_up, va_up_comm, pk_us, pk_un, upd_up, updL_up, pk_uLs, pk_uLn, b01_1, b01_0, b01_1s, b01_0s, or_b, h, show x.toInt < 0 ∨ 7 < x.toInt by omega]
  · obtain ⟨c, hc, rfl⟩ := (pI_nat (by omega)).mp hx
    rw [iN_nI (by omega)]
    rcases (show c = 0 ∨ c = 1 ∨ c = 2 ∨ c = 3 ∨ c = 4 ∨ c = 5 ∨ c = 6 ∨ c = 7 by omega) with rfl | rfl | rfl | rfl | rfl | rfl | rfl | rfl <;> simp (disch := omega) [w60_0, x60_1_0, x60_4_55, w60_7, w60_8, w60_9, w60_56, x60_57_61, w60_60, w60_61, x60_62_61, w60_65, w60_66, x60_67_61, w60_70, w60_71, x60_72_61, w60_75, w60_76, x60_77_61, x60_80, w60_83, w60_84, x60_85_61, w60_88, w60_89, x60_90_61, w60_93, w60_94, x60_95_61, w60_98, w60_99, w60_100, rt60, aw_st, ai_cls, ai_len, ai_p, ai_sw, ai_m, ai_c, ai_at, ai_isI, ai_isJ, ai_isA, ai_ld, ai_1i, ai_2i, ai_2l, ai_cn, ai_j, ai_set, ai_set2, ai_nl, ai_rs, ai_sm, Value.category, hk0, hk1, lits, litb, litm, litm2, List.getElem?_cons_zero, List.getElem?_cons_succ, or_n0, bit_r, fi0, fi1, fi2, fi3, nI_toInt, nI_add, pk_mul, nI_leI, nI_ltI, nI_eq, pk_sub, ib_nI, nI_clamp, va_up_self, va_up_ne, va_up_up, va_up_comm, pk_us, pk_un, upd_up, updL_up, pk_uLs, pk_uLn, b01_1, b01_0, b01_1s, b01_0s, or_b, hh, ho, hn, bitCount_eq, er, lv]
set_option maxHeartbeats 4000000 in
theorem tperson_eq {x y : Int32} (hP : P ≤ 8) (hk : X 47 7 = nI P) (h : (pI P x && pI 11 y) = true) : aw ET G (d + 3) 173 0 [some (.ref 0), some (.int x), some (.int y), none, none] [] 231 sl (mem X Y) Q = Q [.int (persV (lv X 61) (cv X 47) (iN x) (iN y))] 231 sl (mem X Y) := by
  rw [Bool.and_eq_true] at h
  have hp : ∀ (x : Int32) (Q : List Value → Nat → Nat → ai_M → Prop), aw ET G (d + 2) 59 0 [some (.ref 47), some (.int x)] [] 231 sl (mem X Y) Q = Q [.int (b01 (pI P x = true))] 231 sl (mem X Y) := fun x Q => hasP_47 hP hk
  obtain ⟨h1, h2⟩ := h
  obtain ⟨a, ha, rfl⟩ := (pI_nat (by omega)).mp h1
  obtain ⟨c, hc, rfl⟩ := (pI_nat (by omega)).mp h2
  have hd : ∀ (Q : List Value → Nat → Nat → ai_M → Prop), aw ET G (d + 2) 63 0 [some (.ref 61), some (.int (nI a)), none, none] [] 231 sl (mem X Y) Q = Q [.int (rsum (lv X 61 5) (a * 8) 8 0)] 231 sl (mem X Y) := fun Q => debt_eq (lf_mem' (Or.inl rfl)) (by omega)
  have he : ∀ (Q : List Value → Nat → Nat → ai_M → Prop), aw ET G (d + 2) 142 0 [some (.ref 61), some (.int (nI a)), none, none] [] 231 sl (mem X Y) Q = Q [.int (csum (lv X 61 5) a 8 0)] 231 sl (mem X Y) := fun Q => credit_eq (lf_mem' (Or.inl rfl)) (by omega)
  have hb : ∀ (w : Int32), w >>> (nI a &&& 31) &&& nI 1 = b01 (bit w (nI a) = 1) := by
    intro w
    rw [bit_r]; exact bit01 (by omega)
  rw [iN_nI (by omega), iN_nI (by omega)]
  unfold persV
  rcases (show c = 0 ∨ c = 1 ∨ c = 2 ∨ c = 3 ∨ c = 4 ∨ c = 5 ∨ c = 6 ∨ c = 7 ∨ c = 8 ∨ c = 9 ∨ c = 10 by omega) with rfl | rfl | rfl | rfl | rfl | rfl | rfl | rfl | rfl | rfl | rfl <;> simp (disch := omega) [w173_0, x173_1_0, x173_4_55, w173_7, x173_8_47, w173_11, w173_24, x173_25_0, x173_28_55, w173_31, w173_32, x173_33_0, x173_36_55, w173_39, w173_41, w173_42, w173_100, x173_102_61, w173_105, w173_106, w173_107, w173_108, x173_110_61, w173_113, w173_114, w173_115, w173_116, x173_117_47, w173_120, w173_121, w173_122, w173_123, x173_124_47, w173_127, w173_128, w173_129, w173_130, x173_131_47, w173_134, w173_135, w173_136, w173_137, w173_138, w173_139, x173_140_47, w173_143, w173_144, w173_145, w173_146, w173_147, w173_148, x173_150_61, w173_153, w173_154, w173_155, w173_156, w173_157, w173_158, x173_160_61, w173_163, w173_164, w173_165, w173_166, x173_168_61, w173_171, w173_172, w173_173, w173_174, w173_176, x173_177_61, w173_180, w173_181, w173_183, x173_184_61, w173_187, rt173, aw_st, ai_cls, ai_len, ai_p, ai_sw, ai_m, ai_c, ai_at, ai_isI, ai_isJ, ai_isA, ai_ld, ai_1i, ai_2i, ai_2l, ai_cn, ai_j, ai_set, ai_set2, ai_nl, ai_rs, ai_sm, Value.category, hk0, hk1, lits, litb, litm, litm2, List.getElem?_cons_zero, List.getElem?_cons_succ, or_n0, fi0, fi1, fi2, fi3, nI_toInt, nI_add, pk_mul, nI_leI, nI_ltI, nI_eq, pk_sub, ib_nI, nI_clamp, va_up_self, va_up_ne, va_up_up, va_up_comm, pk_us, pk_un, upd_up, updL_up, pk_uLs, pk_uLn, b01_1, b01_0, b01_1s, b01_0s, or_b, hp, h1, hd, he, hb, mm62, mm63, mm64, mm65, mm49, mm50, lv, cv]
set_option maxHeartbeats 4000000 in
theorem tstory_eq {x y : Int32} (hS : S ≤ 8) (hk : X 47 8 = nI S) (h : (pI S x && pI 4 y) = true) : aw ET G (d + 4) 174 0 [some (.ref 0), some (.int x), some (.int y)] [] 231 sl (mem X Y) Q = Q [.int (storV (lv X 61) (cv X 47) (iN x) (iN y))] 231 sl (mem X Y) := by
  rw [Bool.and_eq_true] at h
  have hp : ∀ (x : Int32) (Q : List Value → Nat → Nat → ai_M → Prop), aw ET G (d + 3) 77 0 [some (.ref 47), some (.int x)] [] 231 sl (mem X Y) Q = Q [.int (b01 (pI S x = true))] 231 sl (mem X Y) := fun x Q => hasS_47 hS hk
  obtain ⟨h1, h2⟩ := h
  obtain ⟨a, ha, rfl⟩ := (pI_nat (by omega)).mp h1
  obtain ⟨c, hc, rfl⟩ := (pI_nat (by omega)).mp h2
  have hw : ∀ (Q : List Value → Nat → Nat → ai_M → Prop), aw ET G (d + 3) 81 0 [some (.ref 61), some (.int (nI a))] [] 231 sl (mem X Y) Q = Q [.int (worI (cv X 47) a (lv X 61 6 a))] 231 sl (mem X Y) := fun Q => worthNow_eq (lf_mem' (Or.inl rfl)) (ch_mem ch47) (by omega)
  rw [iN_nI (by omega), iN_nI (by omega)]
  unfold storV
  rcases (show c = 0 ∨ c = 1 ∨ c = 2 ∨ c = 3 by omega) with rfl | rfl | rfl | rfl <;> simp (disch := omega) [w174_0, x174_1_0, x174_4_55, w174_7, x174_8_47, w174_11, w174_24, w174_25, w174_56, x174_57_0, x174_60_55, x174_63_47, w174_66, w174_67, w174_68, w174_69, x174_70_0, x174_73_55, w174_76, x174_77_61, w174_80, w174_81, x174_82_0, x174_85_55, x174_88_61, w174_91, w174_92, w174_93, w174_94, x174_95_0, x174_98_55, x174_101_61, w174_104, w174_105, w174_106, rt174, aw_st, ai_cls, ai_len, ai_p, ai_sw, ai_m, ai_c, ai_at, ai_isI, ai_isJ, ai_isA, ai_ld, ai_1i, ai_2i, ai_2l, ai_cn, ai_j, ai_set, ai_set2, ai_nl, ai_rs, ai_sm, Value.category, hk0, hk1, lits, litb, litm, litm2, List.getElem?_cons_zero, List.getElem?_cons_succ, or_n0, bit_r, fi0, fi1, fi2, fi3, nI_toInt, nI_add, pk_mul, nI_leI, nI_ltI, nI_eq, pk_sub, ib_nI, nI_clamp, va_up_self, va_up_ne, va_up_up, va_up_comm, pk_us, pk_un, upd_up, updL_up, pk_uLs, pk_uLn, b01_1, b01_0, b01_1s, b01_0s, or_b, hp, h1, hw, mm67, mm68, mm52, lv, cv]
set_option maxHeartbeats 4000000 in
theorem tsermon_loop (hP : P ≤ 8) (hk : X 47 7 = nI P) {b : Nat} (hb : b < 8) {w z : Int32} : ∀ (r p : Nat) (acc : Int32), p + r = P → aw ET G (d + 3) 116 49 [some (.ref 0), some (.int (nI b)), some (.int w), some (.int z), some (.ref 47), some (.int acc), some (.int (nI p))] [] 231 sl (mem X Y) Q = Q [.int (sermR (lv X 61) (cv X 47) b z w p r acc)] 231 sl (mem X Y) := by
  intro r
  induction r with
  | zero =>
    intro p acc hp
    simp (disch := omega) [w116_0, x116_1_0, x116_4_55, w116_7, w116_9, w116_11, x116_12_47, w116_15, w116_18, x116_19, w116_22, w116_25, w116_26, w116_29, w116_30, x116_32_47, w116_35, w116_36, w116_39, w116_42, w116_43, w116_44, w116_46, w116_47, w116_49, w116_51, x116_53_47, w116_56, w116_59, w116_60, w116_62, w116_63, w116_64, w116_65, w116_68, w116_71, x116_72_0, x116_75_55, w116_78, w116_80, w116_81, x116_82_61, w116_85, w116_88, w116_91, w116_92, w116_94, w116_95, w116_97, w116_98, x116_99_47, w116_102, x116_103_0, x116_106_55, w116_109, w116_111, x116_112_61, w116_115, w116_116, w116_119, w116_120, w116_122, w116_125, w116_128, w116_130, rt116, ow116, pl11_341, aw_st, ai_cls, ai_len, ai_p, ai_sw, ai_m, ai_c, ai_at, ai_isI, ai_isJ, ai_isA, ai_ld, ai_1i, ai_2i, ai_2l, ai_cn, ai_j, ai_set, ai_set2, ai_nl, ai_rs, ai_sm, Value.category, hk0, hk1, lits, litb, litm, litm2, List.getElem?_cons_zero, List.getElem?_cons_succ, or_n0, bit_r, fi0, fi1, fi2, fi3, nI_toInt, nI_add, pk_mul, nI_leI, nI_ltI, nI_eq, pk_sub, ib_nI, nI_clamp, va_up_self, va_up_ne, va_up_up, va_up_comm, pk_us, pk_un, upd_up, updL_up, pk_uLs, pk_uLn, b01_1, b01_0, b01_1s, b01_0s, or_b, hk, show P ≤ p by omega, sermR]
  | succ r ih =>
    intro p acc hp
    have hw : ∀ (Q : List Value → Nat → Nat → ai_M → Prop), aw ET G (d + 2) 68 0 [some (.ref 61), some (.int (nI p)), some (.int (nI b)), some (.int z)] [] 231 sl (mem X Y) Q = Q [.int (whyI (lv X 61) (cv X 47) p b z)] 231 sl (mem X Y) := fun Q => whyM' (Or.inl rfl) (by omega) (by omega)
    have hd : ∀ (Q : List Value → Nat → Nat → ai_M → Prop), aw ET G (d + 2) 74 0 [some (.ref 47), some (.int (nI b)), some (.int z)] [] 231 sl (mem X Y) Q = Q [.int (dueI (cv X 47) (nI b) z)] 231 sl (mem X Y) := fun Q => hoursOwedFor_eq (ch_mem ch47)
    have hn : ∀ (Q : List Value → Nat → Nat → ai_M → Prop), aw ET G (d + 2) 43 0 [some (.ref 61), some (.int (nI p)), some (.int (nI b))] [] 231 sl (mem X Y) Q = Q [.int (lv X 61 5 (p * 8 + b))] 231 sl (mem X Y) := fun Q => note_61 (by omega) (by omega)
    have ev : bit w (nI p) = b01 (bit w (nI p) = 1) := bit01 (by omega)
    unfold sermR
    rw [w116_49]
    by_cases e1 : bit w (nI p) = 1
    · have e1' : bit w (nI p) = nI 1 := e1
      by_cases e2 : whyI (lv X 61) (cv X 47) p b z = nI 0
      · have := ih (p + 1) (acc + (if 0 < dueI (cv X 47) (nI b) z - lv X 61 5 (p * 8 + b) then dueI (cv X 47) (nI b) z - lv X 61 5 (p * 8 + b) else 0)) (by omega)
        have e2' : whyI (lv X 61) (cv X 47) p b z = 0 := e2
        rw [if_neg (fun q => q e1), if_neg (fun q => q e2')]
        simp (disch := omega) [w116_0, x116_1_0, x116_4_55, w116_7, w116_9, w116_11, x116_12_47, w116_15, w116_18, x116_19, w116_22, w116_25, w116_26, w116_29, w116_30, x116_32_47, w116_35, w116_36, w116_39, w116_42, w116_43, w116_44, w116_46, w116_47, w116_51, x116_53_47, w116_56, w116_59, w116_60, w116_62, w116_63, w116_64, w116_65, w116_68, w116_71, x116_72_0, x116_75_55, w116_78, w116_80, w116_81, x116_82_61, w116_85, w116_88, w116_91, w116_92, w116_94, w116_95, w116_97, w116_98, x116_99_47, w116_102, x116_103_0, x116_106_55, w116_109, w116_111, x116_112_61, w116_115, w116_116, w116_119, w116_120, w116_122, w116_125, w116_128, w116_130, rt116, ow116, pl11_341, aw_st, ai_cls, ai_len, ai_p, ai_sw, ai_m, ai_c, ai_at, ai_isI, ai_isJ, ai_isA, ai_ld, ai_1i, ai_2i, ai_2l, ai_cn, ai_j, ai_set, ai_set2, ai_nl, ai_rs, ai_sm, Value.category, hk0, hk1, lits, litb, litm, litm2, List.getElem?_cons_zero, List.getElem?_cons_succ, or_n0, bit_r, fi0, fi1, fi2, fi3, nI_toInt, nI_add, pk_mul, nI_leI, nI_ltI, nI_eq, pk_sub, ib_nI, nI_clamp, va_up_self, va_up_ne, va_up_up, va_up_comm, pk_us, pk_un, upd_up, updL_up, pk_uLs, pk_uLn, b01_1, b01_0, b01_1s, b01_0s, or_b, hk, hw, hd, hn, e1', e2, show ¬ P ≤ p by omega]
        exact Iff.of_eq this
      · have e2' : ¬ whyI (lv X 61) (cv X 47) p b z = 0 := e2
        rw [if_neg (fun q => q e1), if_pos e2']
        simp (disch := omega) [w116_0, x116_1_0, x116_4_55, w116_7, w116_9, w116_11, x116_12_47, w116_15, w116_18, x116_19, w116_22, w116_25, w116_26, w116_29, w116_30, x116_32_47, w116_35, w116_36, w116_39, w116_42, w116_43, w116_44, w116_46, w116_47, w116_51, x116_53_47, w116_56, w116_59, w116_60, w116_62, w116_63, w116_64, w116_65, w116_68, w116_71, x116_72_0, x116_75_55, w116_78, w116_80, w116_81, x116_82_61, w116_85, w116_88, w116_91, w116_92, w116_94, w116_95, w116_97, w116_98, x116_99_47, w116_102, x116_103_0, x116_106_55, w116_109, w116_111, x116_112_61, w116_115, w116_116, w116_119, w116_120, w116_122, w116_125, w116_128, w116_130, rt116, ow116, pl11_341, aw_st, ai_cls, ai_len, ai_p, ai_sw, ai_m, ai_c, ai_at, ai_isI, ai_isJ, ai_isA, ai_ld, ai_1i, ai_2i, ai_2l, ai_cn, ai_j, ai_set, ai_set2, ai_nl, ai_rs, ai_sm, Value.category, hk0, hk1, lits, litb, litm, litm2, List.getElem?_cons_zero, List.getElem?_cons_succ, or_n0, bit_r, fi0, fi1, fi2, fi3, nI_toInt, nI_add, pk_mul, nI_leI, nI_ltI, nI_eq, pk_sub, ib_nI, nI_clamp, va_up_self, va_up_ne, va_up_up, va_up_comm, pk_us, pk_un, upd_up, updL_up, pk_uLs, pk_uLn, b01_1, b01_0, b01_1s, b01_0s, or_b, hk, hw, hd, hn, e1', e2, show ¬ P ≤ p by omega]
    · have e1' : bit w (nI p) = nI 0 := by rw [ev, b01, if_neg e1]; rfl
      rw [if_pos e1]
      simp (disch := omega) [w116_0, x116_1_0, x116_4_55, w116_7, w116_9, w116_11, x116_12_47, w116_15, w116_18, x116_19, w116_22, w116_25, w116_26, w116_29, w116_30, x116_32_47, w116_35, w116_36, w116_39, w116_42, w116_43, w116_44, w116_46, w116_47, w116_51, x116_53_47, w116_56, w116_59, w116_60, w116_62, w116_63, w116_64, w116_65, w116_68, w116_71, x116_72_0, x116_75_55, w116_78, w116_80, w116_81, x116_82_61, w116_85, w116_88, w116_91, w116_92, w116_94, w116_95, w116_97, w116_98, x116_99_47, w116_102, x116_103_0, x116_106_55, w116_109, w116_111, x116_112_61, w116_115, w116_116, w116_119, w116_120, w116_122, w116_125, w116_128, w116_130, rt116, ow116, pl11_341, aw_st, ai_cls, ai_len, ai_p, ai_sw, ai_m, ai_c, ai_at, ai_isI, ai_isJ, ai_isA, ai_ld, ai_1i, ai_2i, ai_2l, ai_cn, ai_j, ai_set, ai_set2, ai_nl, ai_rs, ai_sm, Value.category, hk0, hk1, lits, litb, litm, litm2, List.getElem?_cons_zero, List.getElem?_cons_succ, or_n0, bit_r, fi0, fi1, fi2, fi3, nI_toInt, nI_add, pk_mul, nI_leI, nI_ltI, nI_eq, pk_sub, ib_nI, nI_clamp, va_up_self, va_up_ne, va_up_up, va_up_comm, pk_us, pk_un, upd_up, updL_up, pk_uLs, pk_uLn, b01_1, b01_0, b01_1s, b01_0s, or_b, hk, hw, hd, hn, e1', show ¬ P ≤ p by omega]
      exact Iff.of_eq (ih (p + 1) acc (by omega))
theorem shr_pow {w : Int32} (hw : 0 < w) (hP : P ≤ 8) : (w >>> (nI P &&& 31) = 0) = (w < 1 <<< (nI P &&& 31)) := by
  obtain ⟨n, hn, rfl⟩ := nI_of (show ¬ w < 0 from fun h => Int32.lt_irrefl (Int32.lt_trans h hw))
  have hp : 2 ^ P ≤ 2 ^ 8 := Nat.pow_le_pow_right (by omega) hP
  have hq : 0 < 2 ^ P := Nat.two_pow_pos P
  have hd : n / 2 ^ P ≤ n := Nat.div_le_self _ _
  rw [pk_shrN hn _ P (s_l P (by omega)), show (1 : Int32) = nI 1 from rfl, pk_shlN _ P (s_l P (by omega)) (by omega), show (0 : Int32) = nI 0 from rfl, propext (nI_eq (by omega) (by omega)), propext (nI_ltI hn (by omega)), Nat.one_mul, Nat.div_eq_zero_iff]
  apply propext
  constructor
  · rintro (h | h)
    · omega
    · exact h
  · exact fun h => Or.inr h
set_option maxHeartbeats 4000000 in
theorem tsermon_eq (hP : P ≤ 8) (hk : X 47 7 = nI P) {x w z : Int32} : aw ET G (d + 3) 116 0 [some (.ref 0), some (.int x), some (.int w), some (.int z), none, none, none] [] 231 sl (mem X Y) Q = Q [.int (sermV P (lv X 61) (cv X 47) x w z)] 231 sl (mem X Y) := by
  have hp : ∀ (x : Int32) (Q : List Value → Nat → Nat → ai_M → Prop), aw ET G (d + 2) 59 0 [some (.ref 47), some (.int x)] [] 231 sl (mem X Y) Q = Q [.int (b01 (pI P x = true))] 231 sl (mem X Y) := fun x Q => hasP_47 hP hk
  unfold sermV
  cases hx : pI P x
  · simp (disch := omega) [w116_0, x116_1_0, x116_4_55, w116_7, w116_9, w116_11, x116_12_47, w116_15, w116_18, x116_19, w116_22, w116_25, w116_26, w116_29, w116_30, x116_32_47, w116_35, w116_36, w116_39, w116_42, w116_43, w116_44, w116_46, w116_47, w116_51, x116_53_47, w116_56, w116_59, w116_60, w116_62, w116_63, w116_64, w116_65, w116_68, w116_71, x116_72_0, x116_75_55, w116_78, w116_80, w116_81, x116_82_61, w116_85, w116_88, w116_91, w116_92, w116_94, w116_95, w116_97, w116_98, x116_99_47, w116_102, x116_103_0, x116_106_55, w116_109, w116_111, x116_112_61, w116_115, w116_116, w116_119, w116_120, w116_122, w116_125, w116_128, w116_130, rt116, ow116, pl11_341, aw_st, ai_cls, ai_len, ai_p, ai_sw, ai_m, ai_c, ai_at, ai_isI, ai_isJ, ai_isA, ai_ld, ai_1i, ai_2i, ai_2l, ai_cn, ai_j, ai_set, ai_set2, ai_nl, ai_rs, ai_sm, Value.category, hk0, hk1, lits, litb, litm, litm2, List.getElem?_cons_zero, List.getElem?_cons_succ, or_n0, bit_r, fi0, fi1, fi2, fi3, nI_toInt, nI_add, pk_mul, nI_leI, nI_ltI, nI_eq, pk_sub, ib_nI, nI_clamp, va_up_self, va_up_ne, va_up_up, va_up_comm, pk_us, pk_un, upd_up, updL_up, pk_uLs, pk_uLn, b01_1, b01_0, b01_1s, b01_0s, or_b, hp, hx]
  · cases hz : inI 1 24 z
    · simp (disch := omega) [w116_0, x116_1_0, x116_4_55, w116_7, w116_9, w116_11, x116_12_47, w116_15, w116_18, x116_19, w116_22, w116_25, w116_26, w116_29, w116_30, x116_32_47, w116_35, w116_36, w116_39, w116_42, w116_43, w116_44, w116_46, w116_47, w116_51, x116_53_47, w116_56, w116_59, w116_60, w116_62, w116_63, w116_64, w116_65, w116_68, w116_71, x116_72_0, x116_75_55, w116_78, w116_80, w116_81, x116_82_61, w116_85, w116_88, w116_91, w116_92, w116_94, w116_95, w116_97, w116_98, x116_99_47, w116_102, x116_103_0, x116_106_55, w116_109, w116_111, x116_112_61, w116_115, w116_116, w116_119, w116_120, w116_122, w116_125, w116_128, w116_130, rt116, ow116, pl11_341, aw_st, ai_cls, ai_len, ai_p, ai_sw, ai_m, ai_c, ai_at, ai_isI, ai_isJ, ai_isA, ai_ld, ai_1i, ai_2i, ai_2l, ai_cn, ai_j, ai_set, ai_set2, ai_nl, ai_rs, ai_sm, Value.category, hk0, hk1, lits, litb, litm, litm2, List.getElem?_cons_zero, List.getElem?_cons_succ, or_n0, bit_r, fi0, fi1, fi2, fi3, nI_toInt, nI_add, pk_mul, nI_leI, nI_ltI, nI_eq, pk_sub, ib_nI, nI_clamp, va_up_self, va_up_ne, va_up_up, va_up_comm, pk_us, pk_un, upd_up, updL_up, pk_uLs, pk_uLn, b01_1, b01_0, b01_1s, b01_0s, or_b, hp, hx, isTalkLength_eq, show inI (nI 1) (nI 24) z = _ from hz]
    · obtain ⟨a, ha, rfl⟩ := (pI_nat (by omega)).mp hx
      rcases lt_or (nI 0) w with ⟨g1, g2⟩ | ⟨g1, g2⟩
      · have h1w : nI 1 ≤ w := by
          have := Int32.lt_iff_toInt_lt.mp g1
          refine Int32.le_iff_toInt_le.mpr ?_
          have e0 : (nI 0).toInt = 0 := rfl
          have e1 : (nI 1).toInt = 1 := rfl
          omega
        by_cases hs : w >>> (nI P &&& 31) = nI 0
        · have hs' : w < nI 1 <<< (nI P &&& 31) := by
            have h5 : w < 1 <<< (nI P &&& 31) := by rw [← shr_pow g1 hP]; exact hs
            exact h5
          have := tsermon_loop (G := G) (d := d) (sl := sl) (Q := Q) (Y := Y) hP hk (b := a) (by omega) (w := w) (z := z) P 0 (nI 0) (by omega)
          simp (disch := omega) [w116_0, x116_1_0, x116_4_55, w116_7, w116_9, w116_11, x116_12_47, w116_15, w116_18, x116_19, w116_22, w116_25, w116_26, w116_29, w116_30, x116_32_47, w116_35, w116_36, w116_39, w116_42, w116_43, w116_44, w116_46, w116_47, w116_51, x116_53_47, w116_56, w116_59, w116_60, w116_62, w116_63, w116_64, w116_65, w116_68, w116_71, x116_72_0, x116_75_55, w116_78, w116_80, w116_81, x116_82_61, w116_85, w116_88, w116_91, w116_92, w116_94, w116_95, w116_97, w116_98, x116_99_47, w116_102, x116_103_0, x116_106_55, w116_109, w116_111, x116_112_61, w116_115, w116_116, w116_119, w116_120, w116_122, w116_125, w116_128, w116_130, rt116, ow116, pl11_341, aw_st, ai_cls, ai_len, ai_p, ai_sw, ai_m, ai_c, ai_at, ai_isI, ai_isJ, ai_isA, ai_ld, ai_1i, ai_2i, ai_2l, ai_cn, ai_j, ai_set, ai_set2, ai_nl, ai_rs, ai_sm, Value.category, hk0, hk1, lits, litb, litm, litm2, List.getElem?_cons_zero, List.getElem?_cons_succ, or_n0, bit_r, fi0, fi1, fi2, fi3, nI_toInt, nI_add, pk_mul, nI_leI, nI_ltI, nI_eq, pk_sub, ib_nI, nI_clamp, va_up_self, va_up_ne, va_up_up, va_up_comm, pk_us, pk_un, upd_up, updL_up, pk_uLs, pk_uLn, b01_1, b01_0, b01_1s, b01_0s, or_b, hp, hk, hx, isTalkLength_eq, show inI (nI 1) (nI 24) z = _ from hz, g1, g2, hs, iN_nI, this, h1w, hs']
        · have hs' : ¬ w < nI 1 <<< (nI P &&& 31) := by
            have h5 : ¬ w < 1 <<< (nI P &&& 31) := by rw [← shr_pow g1 hP]; exact hs
            exact h5
          simp (disch := omega) [w116_0, x116_1_0, x116_4_55, w116_7, w116_9, w116_11, x116_12_47, w116_15, w116_18, x116_19, w116_22, w116_25, w116_26, w116_29, w116_30, x116_32_47, w116_35, w116_36, w116_39, w116_42, w116_43, w116_44, w116_46, w116_47, w116_51, x116_53_47, w116_56, w116_59, w116_60, w116_62, w116_63, w116_64, w116_65, w116_68, w116_71, x116_72_0, x116_75_55, w116_78, w116_80, w116_81, x116_82_61, w116_85, w116_88, w116_91, w116_92, w116_94, w116_95, w116_97, w116_98, x116_99_47, w116_102, x116_103_0, x116_106_55, w116_109, w116_111, x116_112_61, w116_115, w116_116, w116_119, w116_120, w116_122, w116_125, w116_128, w116_130, rt116, ow116, pl11_341, aw_st, ai_cls, ai_len, ai_p, ai_sw, ai_m, ai_c, ai_at, ai_isI, ai_isJ, ai_isA, ai_ld, ai_1i, ai_2i, ai_2l, ai_cn, ai_j, ai_set, ai_set2, ai_nl, ai_rs, ai_sm, Value.category, hk0, hk1, lits, litb, litm, litm2, List.getElem?_cons_zero, List.getElem?_cons_succ, or_n0, bit_r, fi0, fi1, fi2, fi3, nI_toInt, nI_add, pk_mul, nI_leI, nI_ltI, nI_eq, pk_sub, ib_nI, nI_clamp, va_up_self, va_up_ne, va_up_up, va_up_comm, pk_us, pk_un, upd_up, updL_up, pk_uLs, pk_uLn, b01_1, b01_0, b01_1s, b01_0s, or_b, hp, hk, hx, isTalkLength_eq, show inI (nI 1) (nI 24) z = _ from hz, g1, g2, hs, hs']
      · have h1w : ¬ nI 1 ≤ w := by
          intro h
          have h4 := Int32.le_iff_toInt_le.mp h
          have g3 := Int32.le_iff_toInt_le.mp g2
          have e0 : (nI 0).toInt = 0 := rfl
          have e1 : (nI 1).toInt = 1 := rfl
          omega
        simp (disch := omega) [w116_0, x116_1_0, x116_4_55, w116_7, w116_9, w116_11, x116_12_47, w116_15, w116_18, x116_19, w116_22, w116_25, w116_26, w116_29, w116_30, x116_32_47, w116_35, w116_36, w116_39, w116_42, w116_43, w116_44, w116_46, w116_47, w116_51, x116_53_47, w116_56, w116_59, w116_60, w116_62, w116_63, w116_64, w116_65, w116_68, w116_71, x116_72_0, x116_75_55, w116_78, w116_80, w116_81, x116_82_61, w116_85, w116_88, w116_91, w116_92, w116_94, w116_95, w116_97, w116_98, x116_99_47, w116_102, x116_103_0, x116_106_55, w116_109, w116_111, x116_112_61, w116_115, w116_116, w116_119, w116_120, w116_122, w116_125, w116_128, w116_130, rt116, ow116, pl11_341, aw_st, ai_cls, ai_len, ai_p, ai_sw, ai_m, ai_c, ai_at, ai_isI, ai_isJ, ai_isA, ai_ld, ai_1i, ai_2i, ai_2l, ai_cn, ai_j, ai_set, ai_set2, ai_nl, ai_rs, ai_sm, Value.category, hk0, hk1, lits, litb, litm, litm2, List.getElem?_cons_zero, List.getElem?_cons_succ, or_n0, bit_r, fi0, fi1, fi2, fi3, nI_toInt, nI_add, pk_mul, nI_leI, nI_ltI, nI_eq, pk_sub, ib_nI, nI_clamp, va_up_self, va_up_ne, va_up_up, va_up_comm, pk_us, pk_un, upd_up, updL_up, pk_uLs, pk_uLn, b01_1, b01_0, b01_1s, b01_0s, or_b, hp, hx, isTalkLength_eq, show inI (nI 1) (nI 24) z = _ from hz, g1, g2, h1w]
end TWN2
