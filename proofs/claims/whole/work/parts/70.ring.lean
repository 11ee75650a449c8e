/-! RINGS: struck out by the reference -/
section RNV
variable {G : ai_G} {d n sl : Nat} {Q : List Value → Nat → Nat → ai_M → Prop} {l k : Nat → Nat → Int32} {P S : Nat} {Y : mY} {X : mX}
def lstQ (f : Nat → Int32) (z : List Nat) : Nat → Nat → Int32 → Int32
  | _, 0, acc => acc
  | i, r + 1, acc => lstQ f z (i + 1) r (minI acc (f (edg z i)))
/-- notes within a bound -/
def NQ (f : Nat → Int32) : Prop := ∀ i, i < 64 → ∃ v, v < 1000000000 ∧ f i = nI v
theorem NQ.nn {f : Nat → Int32} (h : NQ f) : NN f := fun i hi => by obtain ⟨v, a, b⟩ := h i hi; exact ⟨v, by omega, b⟩
theorem lstQ_ok {f : Nat → Int32} {z : List Nat} (hf : NQ f) (hz : ∀ q ∈ z, q < 8) : ∀ (r i A : Nat), i + r ≤ z.length → A ≤ 1000000000 → ∃ m, m ≤ 1000000000 ∧ lstQ f z i r (nI A) = nI m ∧ m ≤ A ∧ (∀ t, i ≤ t → t < i + r → ∃ v, v < 1000000000 ∧ f (edg z t) = nI v ∧ m ≤ v) ∧ (m = A ∨ ∃ t, i ≤ t ∧ t < i + r ∧ f (edg z t) = nI m) := by
  intro r
  induction r with
  | zero => intro i A h hA; exact ⟨A, hA, rfl, Nat.le_refl _, fun t h1 h2 => by omega, Or.inl rfl⟩
  | succ r ih =>
    intro i A h hA
    obtain ⟨v, hv, ev⟩ := hf (edg z i) (edg_lt hz (by omega))
    obtain ⟨m, m1, m2, m3, m4, m5⟩ := ih (i + 1) (min A v) (by omega) (by omega)
    refine ⟨m, m1, ?_, by omega, ?_, ?_⟩
    · unfold lstQ
      rw [ev, minI_nat (by omega) (by omega)]
      exact m2
    · intro t h1 h2
      by_cases e : t = i
      · subst e; exact ⟨v, hv, ev, by omega⟩
      · exact m4 t (by omega) (by omega)
    · rcases m5 with rfl | ⟨t, t1, t2, t3⟩
      · by_cases c : A ≤ v
        · left; omega
        · right; exact ⟨i, by omega, by omega, by rw [ev]; congr 1; omega⟩
      · right; exact ⟨t, by omega, by omega, t3⟩
theorem lstQ_Z {f : Nat → Int32} {z : List Nat} (hf : NQ f) (hP : P ≤ 8) (hr : ringS f P = some z) : lstQ f z 0 z.length (nI 1000000000) = lstZ f z := by
  obtain ⟨h3, hl, hnd, hzP, hRG, fr, hfr, hc⟩ := ringS_ok hr
  have hz : ∀ q ∈ z, q < 8 := fun q hq => by have := hzP q hq; omega
  have hp : ∀ i, i < z.length → 0 < f (edg z i) := fun i hi => edg_pos h3 hRG hfr hc hi
  obtain ⟨m, m0, m1, m2, m3, i0, i1, i2⟩ := lstZ_ok hf.nn hz h3 hp
  obtain ⟨q, q1, q2, q3, q4, q5⟩ := lstQ_ok hf hz z.length 0 1000000000 (by omega) (by omega)
  rw [q2, m2]
  obtain ⟨v, v1, v2, v3⟩ := q4 i0 (by omega) (by omega)
  have e1 := (nI_eq (by omega) (by omega)).mp (v2.symm.trans i2)
  rcases q5 with rfl | ⟨t, t1, t2, t3⟩
  · omega
  · obtain ⟨w, w1, w2, w3⟩ := m3 t (by omega)
    have e2 := (nI_eq (by omega) (by omega)).mp (w2.symm.trans t3)
    congr 1
    omega
theorem nxt_mod {s i : Nat} (h : i < s) : (i + 1) % s = nxt s i := by
  unfold nxt
  split
  · exact Nat.mod_eq_of_lt (by assumption)
  · rw [show i + 1 = s by omega, Nat.mod_self]
def Wst (X : mX) (h : Int32) (s g : Nat → Int32) : mX := va_up (va_up (va_up X 199 (upd (X 199) 25 h)) 201 s) 206 g
set_option maxHeartbeats 4000000 in
theorem stMin {f s g : Nat → Int32} {z : List Nat} {h : Int32} {c : Int32} (hs : ∀ i, i < 64 → s (177 + i) = f i) (hw : RW g z) (hz : ∀ q ∈ z, q < 8) (h3 : 3 ≤ z.length) (hl : z.length ≤ 8) : ∀ (r i : Nat) (acc : Int32), i + r = z.length → aw ET G (d + 1) 233 23 [some (.ref 199), some (.int c), some (.int (nI z.length)), some (.int acc), some (.int (nI i))] [] 231 sl (mem (Wst X h s g) Y) Q = aw ET G (d + 1) 233 71 [some (.ref 199), some (.int c), some (.int (nI z.length)), some (.int (lstQ f z i r acc)), some (.int (nI z.length))] [] 231 sl (mem (Wst X h s g) Y) Q := by
  intro r
  induction r with
  | zero =>
    intro i acc hi
    have : i = z.length := by omega
    subst this
    simp (disch := omega) [w233_23, w233_25, w233_26, aw_st, ai_cls, ai_len, ai_p, ai_sw, ai_m, ai_c, ai_at, ai_isI, ai_isJ, ai_isA, ai_ld, ai_1i, ai_2i, ai_2l, ai_cn, ai_j, ai_set, ai_set2, ai_nl, ai_rs, ai_sm, Value.category, hk0, hk1, lits, litb, litm, litm2, List.getElem?_cons_zero, List.getElem?_cons_succ, or_n0, bit_r, fi0, fi1, fi2, fi3, nI_toInt, nI_add, pk_mul, nI_leI, nI_ltI, nI_eq, pk_sub, ib_nI, nI_clamp, va_up_self, va_up_ne, va_up_up, va_up_comm, pk_us, pk_un, upd_up, updL_up, pk_uLs, pk_uLn, b01_1, b01_0, b01_1s, b01_0s, or_b, mm200, mu200, mm201, mu201, mm202, mu202, mm203, mu203, mm204, mu204, mm205, mu205, mm206, mu206, mm207, mu207, mm208, mu208, mm209, mu209, mm210, mu210, mm211, mu211, mm212, mu212, mm213, mu213, mm214, mu214, mm215, mu215, mm216, mu216, mm217, mu217, mm218, mu218, mm219, mu219, mm220, mu220, mm221, mu221, mm222, mu222, mm223, mu223, mm224, mu224, mm225, mu225, mm226, mu226, mm227, mu227, mm228, mu228, mm229, mu229, mm230, mu230, lstQ]
  | succ r ih =>
    intro i acc hi
    have e1 := RW_at hw i (by omega)
    have hx := nxt_lt (s := z.length) (i := i) (by omega)
    have e2 := RW_at hw _ hx
    have z1 := hz _ (zr_mem (z := z) (i := i) (by omega))
    have z2 := hz _ (zr_mem (z := z) hx)
    have he := hs (edg z i) (edg_lt hz (by omega))
    rw [show 177 + edg z i = 177 + 8 * zr z i + zr z (nxt z.length i) by unfold edg; omega] at he
    rw [w233_23]
    unfold Wst
    simp (disch := omega) [w233_1, w233_2, w233_3, x233_4, w233_7, x233_8, w233_11, w233_13, w233_16, w233_19, w233_20, w233_21, w233_25, w233_26, w233_29, w233_30, x233_31, w233_34, w233_37, w233_39, x233_40, w233_43, w233_45, w233_46, w233_47, w233_48, x233_49, w233_52, w233_54, w233_55, w233_56, w233_57, w233_58, w233_59, w233_60, x233_61, w233_64, w233_65, w233_68, w233_72, w233_76, w233_77, w233_80, x233_81, w233_84, w233_87, w233_89, x233_90, w233_93, w233_95, w233_96, w233_97, w233_98, x233_99, w233_102, w233_104, w233_105, w233_106, w233_107, w233_108, w233_109, w233_110, w233_111, w233_112, w233_113, w233_114, w233_115, w233_118, w233_122, x233_123, w233_126, w233_127, w233_128, w233_129, x233_130, w233_133, w233_136, x233_137, w233_140, w233_141, w233_144, x233_145, w233_148, w233_151, w233_152, w233_153, x233_154, w233_157, w233_158, w233_159, w233_160, rt233, ow233, pl12_318, aw_st, ai_cls, ai_len, ai_p, ai_sw, ai_m, ai_c, ai_at, ai_isI, ai_isJ, ai_isA, ai_ld, ai_1i, ai_2i, ai_2l, ai_cn, ai_j, ai_set, ai_set2, ai_nl, ai_rs, ai_sm, Value.category, hk0, hk1, lits, litb, litm, litm2, List.getElem?_cons_zero, List.getElem?_cons_succ, or_n0, bit_r, fi0, fi1, fi2, fi3, nI_toInt, nI_add, pk_mul, nI_leI, nI_ltI, nI_eq, pk_sub, ib_nI, nI_clamp, va_up_self, va_up_ne, va_up_up, va_up_comm, pk_us, pk_un, upd_up, updL_up, pk_uLs, pk_uLn, b01_1, b01_0, b01_1s, b01_0s, or_b, mm200, mu200, mm201, mu201, mm202, mu202, mm203, mu203, mm204, mu204, mm205, mu205, mm206, mu206, mm207, mu207, mm208, mu208, mm209, mu209, mm210, mu210, mm211, mu211, mm212, mu212, mm213, mu213, mm214, mu214, mm215, mu215, mm216, mu216, mm217, mu217, mm218, mu218, mm219, mu219, mm220, mu220, mm221, mu221, mm222, mu222, mm223, mu223, mm224, mu224, mm225, mu225, mm226, mu226, mm227, mu227, mm228, mu228, mm229, mu229, mm230, mu230, pk_rem, nxt_mod, e1, e2, he, lesser_eq, min_sym acc, show ¬ z.length ≤ i by omega, show ¬ z.length = 0 by omega]
    have := ih (i + 1) (minI acc (f (edg z i))) (by omega)
    unfold Wst minI at this
    rw [this]
    rfl
set_option maxHeartbeats 4000000 in
theorem stSub {f g : Nat → Int32} {z : List Nat} {h : Int32} {c v : Int32} (hw : RW g z) (hz : ∀ q ∈ z, q < 8) (h3 : 3 ≤ z.length) (hl : z.length ≤ 8) : ∀ (r i : Nat) (f s : Nat → Int32), i + r = z.length → (∀ i, i < 64 → s (177 + i) = f i) → (∀ s', (∀ j, j < 64 → s' (177 + j) = subR z v i r f j) → (∀ j, j < 177 ∨ 241 ≤ j → s' j = s j) → aw ET G (d + 1) 233 121 [some (.ref 199), some (.int c), some (.int (nI z.length)), some (.int v), some (.int (nI z.length))] [] 231 sl (mem (Wst X h s' g) Y) Q) → aw ET G (d + 1) 233 74 [some (.ref 199), some (.int c), some (.int (nI z.length)), some (.int v), some (.int (nI i))] [] 231 sl (mem (Wst X h s g) Y) Q := by
  intro r
  induction r with
  | zero =>
    intro i f s hi hs hQ
    have : i = z.length := by omega
    subst this
    have := hQ s hs (fun _ _ => rfl)
    simp (disch := omega) [w233_74, w233_76, w233_77, aw_st, ai_cls, ai_len, ai_p, ai_sw, ai_m, ai_c, ai_at, ai_isI, ai_isJ, ai_isA, ai_ld, ai_1i, ai_2i, ai_2l, ai_cn, ai_j, ai_set, ai_set2, ai_nl, ai_rs, ai_sm, Value.category, hk0, hk1, lits, litb, litm, litm2, List.getElem?_cons_zero, List.getElem?_cons_succ, or_n0, bit_r, fi0, fi1, fi2, fi3, nI_toInt, nI_add, pk_mul, nI_leI, nI_ltI, nI_eq, pk_sub, ib_nI, nI_clamp, va_up_self, va_up_ne, va_up_up, va_up_comm, pk_us, pk_un, upd_up, updL_up, pk_uLs, pk_uLn, b01_1, b01_0, b01_1s, b01_0s, or_b, mm200, mu200, mm201, mu201, mm202, mu202, mm203, mu203, mm204, mu204, mm205, mu205, mm206, mu206, mm207, mu207, mm208, mu208, mm209, mu209, mm210, mu210, mm211, mu211, mm212, mu212, mm213, mu213, mm214, mu214, mm215, mu215, mm216, mu216, mm217, mu217, mm218, mu218, mm219, mu219, mm220, mu220, mm221, mu221, mm222, mu222, mm223, mu223, mm224, mu224, mm225, mu225, mm226, mu226, mm227, mu227, mm228, mu228, mm229, mu229, mm230, mu230]
    exact this
  | succ r ih =>
    intro i f s hi hs hQ
    have e1 := RW_at hw i (by omega)
    have hx := nxt_lt (s := z.length) (i := i) (by omega)
    have e2 := RW_at hw _ hx
    have z1 := hz _ (zr_mem (z := z) (i := i) (by omega))
    have z2 := hz _ (zr_mem (z := z) hx)
    have hel := edg_lt hz (i := i) (by omega)
    have he := hs (edg z i) hel
    have hee : 177 + edg z i = 177 + 8 * zr z i + zr z (nxt z.length i) := by unfold edg; omega
    rw [hee] at he
    rw [w233_74]
    unfold Wst
    simp (disch := omega) [w233_1, w233_2, w233_3, x233_4, w233_7, x233_8, w233_11, w233_13, w233_16, w233_19, w233_20, w233_21, w233_25, w233_26, w233_29, w233_30, x233_31, w233_34, w233_37, w233_39, x233_40, w233_43, w233_45, w233_46, w233_47, w233_48, x233_49, w233_52, w233_54, w233_55, w233_56, w233_57, w233_58, w233_59, w233_60, x233_61, w233_64, w233_65, w233_68, w233_72, w233_76, w233_77, w233_80, x233_81, w233_84, w233_87, w233_89, x233_90, w233_93, w233_95, w233_96, w233_97, w233_98, x233_99, w233_102, w233_104, w233_105, w233_106, w233_107, w233_108, w233_109, w233_110, w233_111, w233_112, w233_113, w233_114, w233_115, w233_118, w233_122, x233_123, w233_126, w233_127, w233_128, w233_129, x233_130, w233_133, w233_136, x233_137, w233_140, w233_141, w233_144, x233_145, w233_148, w233_151, w233_152, w233_153, x233_154, w233_157, w233_158, w233_159, w233_160, rt233, ow233, pl12_318, aw_st, ai_cls, ai_len, ai_p, ai_sw, ai_m, ai_c, ai_at, ai_isI, ai_isJ, ai_isA, ai_ld, ai_1i, ai_2i, ai_2l, ai_cn, ai_j, ai_set, ai_set2, ai_nl, ai_rs, ai_sm, Value.category, hk0, hk1, lits, litb, litm, litm2, List.getElem?_cons_zero, List.getElem?_cons_succ, or_n0, bit_r, fi0, fi1, fi2, fi3, nI_toInt, nI_add, pk_mul, nI_leI, nI_ltI, nI_eq, pk_sub, ib_nI, nI_clamp, va_up_self, va_up_ne, va_up_up, va_up_comm, pk_us, pk_un, upd_up, updL_up, pk_uLs, pk_uLn, b01_1, b01_0, b01_1s, b01_0s, or_b, mm200, mu200, mm201, mu201, mm202, mu202, mm203, mu203, mm204, mu204, mm205, mu205, mm206, mu206, mm207, mu207, mm208, mu208, mm209, mu209, mm210, mu210, mm211, mu211, mm212, mu212, mm213, mu213, mm214, mu214, mm215, mu215, mm216, mu216, mm217, mu217, mm218, mu218, mm219, mu219, mm220, mu220, mm221, mu221, mm222, mu222, mm223, mu223, mm224, mu224, mm225, mu225, mm226, mu226, mm227, mu227, mm228, mu228, mm229, mu229, mm230, mu230, pk_rem, nxt_mod, e1, e2, he, show ¬ z.length ≤ i by omega, show ¬ z.length = 0 by omega]
    have := ih (i + 1) (upd f (edg z i) (f (edg z i) - v)) (upd s (177 + 8 * zr z i + zr z (nxt z.length i)) (f (edg z i) - v)) (by omega) ?_ ?_
    · unfold Wst at this
      exact this
    · intro j hj
      rw [← hee, upd_sh]
      unfold upd
      by_cases c1 : j = edg z i
      · simp [c1]
      · simp [c1, hs j hj]
    · intro s' h1 h2
      refine hQ s' h1 (fun j hj => ?_)
      rw [h2 j hj, pk_un (by omega)]
theorem strk_h : ∀ (r : Nat) (f : Nat → Int32) (h e : Int32) (c : Nat), strk P r f (h + e) c = ((strk P r f e c).1, h + (strk P r f e c).2.1, (strk P r f e c).2.2) := by
  intro r
  induction r with
  | zero => intro f h e c; rfl
  | succ r ih =>
    intro f h e c
    unfold strk
    cases ringS f P with
    | none => rfl
    | some z =>
      dsimp only
      rw [Int32.add_assoc]
      exact ih _ _ _ _
theorem nzc_64 (f : Nat → Int32) : ∀ n, nzc f n ≤ n := by
  intro n
  induction n with
  | zero => exact Nat.le_refl _
  | succ n ih => unfold nzc; split <;> omega
set_option maxHeartbeats 4000000 in
theorem strikes_loop (hP : P ≤ 8) : ∀ (r : Nat) (f : Nat → Int32) (h : Int32) (c : Nat) (s g : Nat → Int32) (z3 z4 : Option Value), nzc f 64 ≤ r → NQ f → (∀ i, i < 64 → s (177 + i) = f i) → s 0 = nI P → (∀ z, ringS f P = some z → RW g z) → (∀ s' g', (∀ i, i < 64 → s' (177 + i) = (strk P r f h c).1 i) → (∀ i, ¬ i = 135 → i < 177 ∨ 241 ≤ i → s' i = s i) → s' 135 = s 135 + (strk P r f h c).2.1 → Q [.int (nI (strk P r f h c).2.2)] 231 sl (mem (Wst X (strk P r f h c).2.1 s' g') Y)) → aw ET G (d + 3) 233 12 [some (.ref 199), some (.int (nI c)), some (.int (nI (rlen (ringS f P)))), z3, z4] [] 231 sl (mem (Wst X h s g) Y) Q := by
  intro r
  have fin : ∀ (f : Nat → Int32) (h : Int32) (c : Nat) (s g : Nat → Int32) (z3 z4 : Option Value), ringS f P = none → (∀ i, i < 64 → s (177 + i) = f i) → (∀ s' g', (∀ i, i < 64 → s' (177 + i) = f i) → (∀ i, ¬ i = 135 → i < 177 ∨ 241 ≤ i → s' i = s i) → s' 135 = s 135 + h → Q [.int (nI c)] 231 sl (mem (Wst X h s' g') Y)) → aw ET G (d + 3) 233 12 [some (.ref 199), some (.int (nI c)), some (.int (nI (rlen (ringS f P)))), z3, z4] [] 231 sl (mem (Wst X h s g) Y) Q := by
    intro f h c s g z3 z4 e hs hQ
    have := hQ (upd s 135 (s 135 + h)) g (fun i hi => by rw [pk_un (by omega)]; exact hs i hi) (fun i h1 h2 => pk_un h1) pk_us
    unfold Wst at this ⊢
    rw [e]
    simp (disch := omega) [w233_1, w233_2, w233_3, x233_4, w233_7, x233_8, w233_11, w233_12, w233_13, w233_16, w233_19, w233_20, w233_21, w233_25, w233_26, w233_29, w233_30, x233_31, w233_34, w233_37, w233_39, x233_40, w233_43, w233_45, w233_46, w233_47, w233_48, x233_49, w233_52, w233_54, w233_55, w233_56, w233_57, w233_58, w233_59, w233_60, x233_61, w233_64, w233_65, w233_68, w233_72, w233_76, w233_77, w233_80, x233_81, w233_84, w233_87, w233_89, x233_90, w233_93, w233_95, w233_96, w233_97, w233_98, x233_99, w233_102, w233_104, w233_105, w233_106, w233_107, w233_108, w233_109, w233_110, w233_111, w233_112, w233_113, w233_114, w233_115, w233_118, w233_122, x233_123, w233_126, w233_127, w233_128, w233_129, x233_130, w233_133, w233_136, x233_137, w233_140, w233_141, w233_144, x233_145, w233_148, w233_151, w233_152, w233_153, x233_154, w233_157, w233_158, w233_159, w233_160, rt233, ow233, pl12_318, aw_st, ai_cls, ai_len, ai_p, ai_sw, ai_m, ai_c, ai_at, ai_isI, ai_isJ, ai_isA, ai_ld, ai_1i, ai_2i, ai_2l, ai_cn, ai_j, ai_set, ai_set2, ai_nl, ai_rs, ai_sm, Value.category, hk0, hk1, lits, litb, litm, litm2, List.getElem?_cons_zero, List.getElem?_cons_succ, or_n0, bit_r, fi0, fi1, fi2, fi3, nI_toInt, nI_add, pk_mul, nI_leI, nI_ltI, nI_eq, pk_sub, ib_nI, nI_clamp, va_up_self, va_up_ne, va_up_up, va_up_comm, pk_us, pk_un, upd_up, updL_up, pk_uLs, pk_uLn, b01_1, b01_0, b01_1s, b01_0s, or_b, mm200, mu200, mm201, mu201, mm202, mu202, mm203, mu203, mm204, mu204, mm205, mu205, mm206, mu206, mm207, mu207, mm208, mu208, mm209, mu209, mm210, mu210, mm211, mu211, mm212, mu212, mm213, mu213, mm214, mu214, mm215, mu215, mm216, mu216, mm217, mu217, mm218, mu218, mm219, mu219, mm220, mu220, mm221, mu221, mm222, mu222, mm223, mu223, mm224, mu224, mm225, mu225, mm226, mu226, mm227, mu227, mm228, mu228, mm229, mu229, mm230, mu230, rlen]
    simpa (disch := omega) [va_up_comm, va_up_self, va_up_ne, va_up_up] using this
  induction r with
  | zero =>
    intro f h c s g z3 z4 hn hB hs h0 hw hQ
    exact fin f h c s g z3 z4 (ringS_nz hB.nn hP (by omega)) hs hQ
  | succ r ih =>
    intro f h c s g z3 z4 hn hB hs h0 hw hQ
    cases hr : ringS f P with
    | none =>
      unfold strk at hQ
      rw [hr] at hQ
      have := fin f h c s g z3 z4 hr hs hQ
      rw [hr] at this
      exact this
    | some z =>
      unfold strk at hQ
      rw [hr] at hQ
      dsimp only at hQ
      obtain ⟨h3, hl, hnd, hzP, hRG, fr, hfr, hc⟩ := ringS_ok hr
      have hz : ∀ q ∈ z, q < 8 := fun q hq => by have := hzP q hq; omega
      obtain ⟨o1, o2, o3⟩ := strF_ok hB.nn hP hr
      have hB2 : NQ (strF f z) := fun i hi => by
        obtain ⟨v, v1, v2⟩ := hB i hi
        obtain ⟨u, u1, u2⟩ := o3 i v hi v2 (by omega)
        exact ⟨u, by omega, u2⟩
      have hwz := hw z hr
      have hl8 : z.length ≤ 8 := by omega
      have e9 : (1000000000 : Int32) = nI 1000000000 := rfl
      simp (disch := omega) [w233_12, w233_13, w233_16, w233_19, w233_20, w233_21, ow233, pl12_318, aw_st, ai_cls, ai_len, ai_p, ai_sw, ai_m, ai_c, ai_at, ai_isI, ai_isJ, ai_isA, ai_ld, ai_1i, ai_2i, ai_2l, ai_cn, ai_j, ai_set, ai_set2, ai_nl, ai_rs, ai_sm, Value.category, hk0, hk1, lits, litb, litm, litm2, List.getElem?_cons_zero, List.getElem?_cons_succ, or_n0, bit_r, fi0, fi1, fi2, fi3, nI_toInt, nI_add, pk_mul, nI_leI, nI_ltI, nI_eq, pk_sub, ib_nI, nI_clamp, va_up_self, va_up_ne, va_up_up, va_up_comm, pk_us, pk_un, upd_up, updL_up, pk_uLs, pk_uLn, b01_1, b01_0, b01_1s, b01_0s, or_b, mm200, mu200, mm201, mu201, mm202, mu202, mm203, mu203, mm204, mu204, mm205, mu205, mm206, mu206, mm207, mu207, mm208, mu208, mm209, mu209, mm210, mu210, mm211, mu211, mm212, mu212, mm213, mu213, mm214, mu214, mm215, mu215, mm216, mu216, mm217, mu217, mm218, mu218, mm219, mu219, mm220, mu220, mm221, mu221, mm222, mu222, mm223, mu223, mm224, mu224, mm225, mu225, mm226, mu226, mm227, mu227, mm228, mu228, mm229, mu229, mm230, mu230, rlen, e9, show ¬ z.length ≤ 0 by omega]
      rw [stMin hs hwz hz h3 hl8 z.length 0 (nI 1000000000) (by omega), lstQ_Z hB hP hr]
      simp (disch := omega) [w233_71, w233_72, aw_st, ai_cls, ai_len, ai_p, ai_sw, ai_m, ai_c, ai_at, ai_isI, ai_isJ, ai_isA, ai_ld, ai_1i, ai_2i, ai_2l, ai_cn, ai_j, ai_set, ai_set2, ai_nl, ai_rs, ai_sm, Value.category, hk0, hk1, lits, litb, litm, litm2, List.getElem?_cons_zero, List.getElem?_cons_succ, or_n0, bit_r, fi0, fi1, fi2, fi3, nI_toInt, nI_add, pk_mul, nI_leI, nI_ltI, nI_eq, pk_sub, ib_nI, nI_clamp, va_up_self, va_up_ne, va_up_up, va_up_comm, pk_us, pk_un, upd_up, updL_up, pk_uLs, pk_uLn, b01_1, b01_0, b01_1s, b01_0s, or_b, mm200, mu200, mm201, mu201, mm202, mu202, mm203, mu203, mm204, mu204, mm205, mu205, mm206, mu206, mm207, mu207, mm208, mu208, mm209, mu209, mm210, mu210, mm211, mu211, mm212, mu212, mm213, mu213, mm214, mu214, mm215, mu215, mm216, mu216, mm217, mu217, mm218, mu218, mm219, mu219, mm220, mu220, mm221, mu221, mm222, mu222, mm223, mu223, mm224, mu224, mm225, mu225, mm226, mu226, mm227, mu227, mm228, mu228, mm229, mu229, mm230, mu230]
      refine stSub (f := f) hwz hz h3 hl8 z.length 0 f s (by omega) hs ?_
      intro s' s1 s2
      unfold Wst
      simp (disch := omega) [w233_121, w233_122, x233_123, w233_126, w233_127, w233_128, w233_129, x233_130, w233_133, w233_136, x233_137, aw_st, ai_cls, ai_len, ai_p, ai_sw, ai_m, ai_c, ai_at, ai_isI, ai_isJ, ai_isA, ai_ld, ai_1i, ai_2i, ai_2l, ai_cn, ai_j, ai_set, ai_set2, ai_nl, ai_rs, ai_sm, Value.category, hk0, hk1, lits, litb, litm, litm2, List.getElem?_cons_zero, List.getElem?_cons_succ, or_n0, bit_r, fi0, fi1, fi2, fi3, nI_toInt, nI_add, pk_mul, nI_leI, nI_ltI, nI_eq, pk_sub, ib_nI, nI_clamp, va_up_self, va_up_ne, va_up_up, va_up_comm, pk_us, pk_un, upd_up, updL_up, pk_uLs, pk_uLn, b01_1, b01_0, b01_1s, b01_0s, or_b, mm200, mu200, mm201, mu201, mm202, mu202, mm203, mu203, mm204, mu204, mm205, mu205, mm206, mu206, mm207, mu207, mm208, mu208, mm209, mu209, mm210, mu210, mm211, mu211, mm212, mu212, mm213, mu213, mm214, mu214, mm215, mu215, mm216, mu216, mm217, mu217, mm218, mu218, mm219, mu219, mm220, mu220, mm221, mu221, mm222, mu222, mm223, mu223, mm224, mu224, mm225, mu225, mm226, mu226, mm227, mu227, mm228, mu228, mm229, mu229, mm230, mu230]
      refine ringOf_wp (f := strF f z) hP (by simp (disch := omega) [va_up_self, va_up_ne]; rw [s2 0 (by omega)]; exact h0) ?_ o1 ?_
      · intro a b ha hb
        have := s1 (a * 8 + b) (by omega)
        rw [show 177 + (a * 8 + b) = 177 + 8 * a + b by omega] at this
        simp (disch := omega) [va_up_self, va_up_ne]
        exact this
      · intro g' hw'
        simp (disch := omega) [w233_140, w233_141, aw_st, ai_cls, ai_len, ai_p, ai_sw, ai_m, ai_c, ai_at, ai_isI, ai_isJ, ai_isA, ai_ld, ai_1i, ai_2i, ai_2l, ai_cn, ai_j, ai_set, ai_set2, ai_nl, ai_rs, ai_sm, Value.category, hk0, hk1, lits, litb, litm, litm2, List.getElem?_cons_zero, List.getElem?_cons_succ, or_n0, bit_r, fi0, fi1, fi2, fi3, nI_toInt, nI_add, pk_mul, nI_leI, nI_ltI, nI_eq, pk_sub, ib_nI, nI_clamp, va_up_self, va_up_ne, va_up_up, va_up_comm, pk_us, pk_un, upd_up, updL_up, pk_uLs, pk_uLn, b01_1, b01_0, b01_1s, b01_0s, or_b, mm200, mu200, mm201, mu201, mm202, mu202, mm203, mu203, mm204, mu204, mm205, mu205, mm206, mu206, mm207, mu207, mm208, mu208, mm209, mu209, mm210, mu210, mm211, mu211, mm212, mu212, mm213, mu213, mm214, mu214, mm215, mu215, mm216, mu216, mm217, mu217, mm218, mu218, mm219, mu219, mm220, mu220, mm221, mu221, mm222, mu222, mm223, mu223, mm224, mu224, mm225, mu225, mm226, mu226, mm227, mu227, mm228, mu228, mm229, mu229, mm230, mu230]
        have := ih (strF f z) (h + lstZ f z * nI z.length) (c + 1) s' g' (some (.int (lstZ f z))) (some (.int (nI z.length))) (by omega) hB2 s1 (by rw [s2 0 (by omega)]; exact h0) hw' (fun s2' g2 p1 p2 p3 => hQ s2' g2 p1 (fun i i1 i2 => by rw [p2 i i1 i2]; exact s2 i i2) (by rw [p3, s2 135 (by omega)]))
        unfold Wst at this
        exact this
end RNV
