/-! A TOWN, the reference, II -/
section RTX
variable {G : ai_G} {d sl : Nat} {Q : List Value → Nat → Nat → ai_M → Prop} {Y : mY} {X : mX} {c : TC} {i P S n : Nat} {D : TD} {t : Nat → Nat}
theorem taken_eq {lim : Int32} : aw ET G d 183 0 [some (.ref 199), some (.int lim)] [] 231 sl (mem X Y) Q = Q [] 231 sl (mem (va_up X 199 (upd (upd (upd (upd (X 199) 3 (X 199 2)) 2 (nI 0)) 4 (nI 0)) 5 lim)) Y) := by
  simp (disch := omega) [w183_0, w183_1, x183_2, x183_5, w183_8, w183_9, x183_10, w183_13, w183_14, x183_15, w183_18, w183_19, x183_20, w183_23, rt183, aw_st, ai_cls, ai_len, ai_p, ai_sw, ai_m, ai_c, ai_at, ai_isI, ai_isJ, ai_isA, ai_ld, ai_1i, ai_2i, ai_2l, ai_cn, ai_j, ai_set, ai_set2, ai_nl, ai_rs, ai_sm, Value.category, hk0, hk1, lits, litb, litm, litm2, List.getElem?_cons_zero, List.getElem?_cons_succ, or_n0, bit_r, fi0, fi1, fi2, fi3, nI_toInt, nI_add, pk_mul, nI_leI, nI_ltI, nI_eq, pk_sub, ib_nI, nI_clamp, va_up_self, va_up_ne, va_up_up, va_up_comm, pk_us, pk_un, upd_up, updL_up, pk_uLs, pk_uLn, b01_1, b01_0, b01_1s, b01_0s, or_b, mm200, mu200, mm201, mu201, mm202, mu202, mm203, mu203, mm204, mu204, mm205, mu205, mm206, mu206, mm207, mu207, mm208, mu208, mm209, mu209, mm210, mu210, mm211, mu211, mm212, mu212, mm213, mu213, mm214, mu214, mm215, mu215, mm216, mu216, mm217, mu217, mm218, mu218, mm219, mu219, mm220, mu220, mm221, mu221, mm222, mu222, mm223, mu223, mm224, mu224, mm225, mu225, mm226, mu226, mm227, mu227, mm228, mu228, mm229, mu229, mm230, mu230]
def rD0 (X : mX) : TD := (fun j => if j = 3 then nI 10 else if j < 132 then nI 0 else X 202 j, fun _ => [], false, false)
theorem rD0_ok (X : mX) : E0 (rD0 X) := ⟨fun j hj => by simp only [rD0, hj, if_true], rfl, rfl⟩
set_option maxHeartbeats 4000000 in
theorem rt_h : ∀ (r k : Nat) (h : Nat → Int32), k + r = 132 → (∀ q, q < k → h q = nI 0) → (∀ q, 132 ≤ q → h q = X 202 q) → (∀ h', (∀ q, q < 132 → h' q = nI 0) → (∀ q, 132 ≤ q → h' q = X 202 q) → aw ET G d 182 54 [some (.ref 199), some (.int (nI 132))] [] 231 sl (mem (va_up X 202 h') Y) Q) → aw ET G d 182 34 [some (.ref 199), some (.int (nI k))] [] 231 sl (mem (va_up X 202 h) Y) Q := by
  intro r
  induction r with
  | zero =>
    intro k h hk h0 h1 hQ
    have : k = 132 := by omega
    subst this
    have := hQ h h0 h1
    simp (disch := omega) [w182_34, w182_35, w182_38, rt182, aw_st, ai_cls, ai_len, ai_p, ai_sw, ai_m, ai_c, ai_at, ai_isI, ai_isJ, ai_isA, ai_ld, ai_1i, ai_2i, ai_2l, ai_cn, ai_j, ai_set, ai_set2, ai_nl, ai_rs, ai_sm, Value.category, hk0, hk1, lits, litb, litm, litm2, List.getElem?_cons_zero, List.getElem?_cons_succ, or_n0, bit_r, fi0, fi1, fi2, fi3, nI_toInt, nI_add, pk_mul, nI_leI, nI_ltI, nI_eq, pk_sub, ib_nI, nI_clamp, va_up_self, va_up_ne, va_up_up, va_up_comm, pk_us, pk_un, upd_up, updL_up, pk_uLs, pk_uLn, b01_1, b01_0, b01_1s, b01_0s, or_b, mm200, mu200, mm201, mu201, mm202, mu202, mm203, mu203, mm204, mu204, mm205, mu205, mm206, mu206, mm207, mu207, mm208, mu208, mm209, mu209, mm210, mu210, mm211, mu211, mm212, mu212, mm213, mu213, mm214, mu214, mm215, mu215, mm216, mu216, mm217, mu217, mm218, mu218, mm219, mu219, mm220, mu220, mm221, mu221, mm222, mu222, mm223, mu223, mm224, mu224, mm225, mu225, mm226, mu226, mm227, mu227, mm228, mu228, mm229, mu229, mm230, mu230]
    exact this
  | succ r ih =>
    intro k h hk h0 h1 hQ
    have := ih (k + 1) (upd h k (nI 0)) (by omega) (fun q hq => by
      by_cases e : q = k
      · subst e; simp [upd]
      · rw [pk_un e]; exact h0 q (by omega)) (fun q hq => by rw [pk_un (by omega)]; exact h1 q hq) hQ
    rw [w182_34]
    simp (disch := omega) [w182_35, w182_38, w182_41, x182_42, w182_45, w182_46, w182_47, w182_48, w182_51, rt182, aw_st, ai_cls, ai_len, ai_p, ai_sw, ai_m, ai_c, ai_at, ai_isI, ai_isJ, ai_isA, ai_ld, ai_1i, ai_2i, ai_2l, ai_cn, ai_j, ai_set, ai_set2, ai_nl, ai_rs, ai_sm, Value.category, hk0, hk1, lits, litb, litm, litm2, List.getElem?_cons_zero, List.getElem?_cons_succ, or_n0, bit_r, fi0, fi1, fi2, fi3, nI_toInt, nI_add, pk_mul, nI_leI, nI_ltI, nI_eq, pk_sub, ib_nI, nI_clamp, va_up_self, va_up_ne, va_up_up, va_up_comm, pk_us, pk_un, upd_up, updL_up, pk_uLs, pk_uLn, b01_1, b01_0, b01_1s, b01_0s, or_b, mm200, mu200, mm201, mu201, mm202, mu202, mm203, mu203, mm204, mu204, mm205, mu205, mm206, mu206, mm207, mu207, mm208, mu208, mm209, mu209, mm210, mu210, mm211, mu211, mm212, mu212, mm213, mu213, mm214, mu214, mm215, mu215, mm216, mu216, mm217, mu217, mm218, mu218, mm219, mu219, mm220, mu220, mm221, mu221, mm222, mu222, mm223, mu223, mm224, mu224, mm225, mu225, mm226, mu226, mm227, mu227, mm228, mu228, mm229, mu229, mm230, mu230, mm202, mu202, show ¬ 132 ≤ k by omega]
    exact this
set_option maxHeartbeats 4000000 in
theorem rt_s : ∀ (r k : Nat) (s : Nat → Int32), k + r = 438 → (∀ q, q < k → s q = if q < 132 then X 202 q else nI 0) → (∀ s', (∀ q, q < 438 → s' q = if q < 132 then X 202 q else nI 0) → aw ET G d 182 147 [some (.ref 199), some (.int (nI 438))] [] 231 sl (mem (va_up X 201 s') Y) Q) → aw ET G d 182 111 [some (.ref 199), some (.int (nI k))] [] 231 sl (mem (va_up X 201 s) Y) Q := by
  intro r
  induction r with
  | zero =>
    intro k s hk h0 hQ
    have : k = 438 := by omega
    subst this
    have := hQ s h0
    simp (disch := omega) [w182_111, w182_112, w182_115, rt182, aw_st, ai_cls, ai_len, ai_p, ai_sw, ai_m, ai_c, ai_at, ai_isI, ai_isJ, ai_isA, ai_ld, ai_1i, ai_2i, ai_2l, ai_cn, ai_j, ai_set, ai_set2, ai_nl, ai_rs, ai_sm, Value.category, hk0, hk1, lits, litb, litm, litm2, List.getElem?_cons_zero, List.getElem?_cons_succ, or_n0, bit_r, fi0, fi1, fi2, fi3, nI_toInt, nI_add, pk_mul, nI_leI, nI_ltI, nI_eq, pk_sub, ib_nI, nI_clamp, va_up_self, va_up_ne, va_up_up, va_up_comm, pk_us, pk_un, upd_up, updL_up, pk_uLs, pk_uLn, b01_1, b01_0, b01_1s, b01_0s, or_b, mm200, mu200, mm201, mu201, mm202, mu202, mm203, mu203, mm204, mu204, mm205, mu205, mm206, mu206, mm207, mu207, mm208, mu208, mm209, mu209, mm210, mu210, mm211, mu211, mm212, mu212, mm213, mu213, mm214, mu214, mm215, mu215, mm216, mu216, mm217, mu217, mm218, mu218, mm219, mu219, mm220, mu220, mm221, mu221, mm222, mu222, mm223, mu223, mm224, mu224, mm225, mu225, mm226, mu226, mm227, mu227, mm228, mu228, mm229, mu229, mm230, mu230]
    exact this
  | succ r ih =>
    intro k s hk h0 hQ
    have hstep := fun (v : Int32) (hv : v = if k < 132 then X 202 k else nI 0) => ih (k + 1) (upd s k v) (by omega) (fun q hq => by
      by_cases e : q = k
      · subst e; rw [pk_us]; exact hv
      · rw [pk_un e]; exact h0 q (by omega)) hQ
    rw [w182_111]
    by_cases e : k < 132
    · have := hstep (X 202 k) (by rw [if_pos e])
      simp (disch := omega) [w182_112, w182_115, w182_118, x182_119, w182_122, w182_123, w182_124, w182_127, w182_130, x182_131, w182_134, w182_135, w182_136, w182_139, w182_140, w182_141, w182_144, rt182, aw_st, ai_cls, ai_len, ai_p, ai_sw, ai_m, ai_c, ai_at, ai_isI, ai_isJ, ai_isA, ai_ld, ai_1i, ai_2i, ai_2l, ai_cn, ai_j, ai_set, ai_set2, ai_nl, ai_rs, ai_sm, Value.category, hk0, hk1, lits, litb, litm, litm2, List.getElem?_cons_zero, List.getElem?_cons_succ, or_n0, bit_r, fi0, fi1, fi2, fi3, nI_toInt, nI_add, pk_mul, nI_leI, nI_ltI, nI_eq, pk_sub, ib_nI, nI_clamp, va_up_self, va_up_ne, va_up_up, va_up_comm, pk_us, pk_un, upd_up, updL_up, pk_uLs, pk_uLn, b01_1, b01_0, b01_1s, b01_0s, or_b, mm200, mu200, mm201, mu201, mm202, mu202, mm203, mu203, mm204, mu204, mm205, mu205, mm206, mu206, mm207, mu207, mm208, mu208, mm209, mu209, mm210, mu210, mm211, mu211, mm212, mu212, mm213, mu213, mm214, mu214, mm215, mu215, mm216, mu216, mm217, mu217, mm218, mu218, mm219, mu219, mm220, mu220, mm221, mu221, mm222, mu222, mm223, mu223, mm224, mu224, mm225, mu225, mm226, mu226, mm227, mu227, mm228, mu228, mm229, mu229, mm230, mu230, mm201, mu201, mm202, show ¬ 438 ≤ k by omega, show ¬ 132 ≤ k by omega]
      exact this
    · have := hstep (nI 0) (by rw [if_neg e])
      simp (disch := omega) [w182_112, w182_115, w182_118, x182_119, w182_122, w182_123, w182_124, w182_127, w182_130, x182_131, w182_134, w182_135, w182_136, w182_139, w182_140, w182_141, w182_144, rt182, aw_st, ai_cls, ai_len, ai_p, ai_sw, ai_m, ai_c, ai_at, ai_isI, ai_isJ, ai_isA, ai_ld, ai_1i, ai_2i, ai_2l, ai_cn, ai_j, ai_set, ai_set2, ai_nl, ai_rs, ai_sm, Value.category, hk0, hk1, lits, litb, litm, litm2, List.getElem?_cons_zero, List.getElem?_cons_succ, or_n0, bit_r, fi0, fi1, fi2, fi3, nI_toInt, nI_add, pk_mul, nI_leI, nI_ltI, nI_eq, pk_sub, ib_nI, nI_clamp, va_up_self, va_up_ne, va_up_up, va_up_comm, pk_us, pk_un, upd_up, updL_up, pk_uLs, pk_uLn, b01_1, b01_0, b01_1s, b01_0s, or_b, mm200, mu200, mm201, mu201, mm202, mu202, mm203, mu203, mm204, mu204, mm205, mu205, mm206, mu206, mm207, mu207, mm208, mu208, mm209, mu209, mm210, mu210, mm211, mu211, mm212, mu212, mm213, mu213, mm214, mu214, mm215, mu215, mm216, mu216, mm217, mu217, mm218, mu218, mm219, mu219, mm220, mu220, mm221, mu221, mm222, mu222, mm223, mu223, mm224, mu224, mm225, mu225, mm226, mu226, mm227, mu227, mm228, mu228, mm229, mu229, mm230, mu230, mm201, mu201, mm202, show ¬ 438 ≤ k by omega, show 132 ≤ k by omega]
      exact this
set_option maxHeartbeats 4000000 in
theorem rt_n {w0 : Nat → Int64} : ∀ (r k : Nat) (w : Nat → Int64), k + r = 16 → (∀ q, q < k → w q = w0 (16 + q)) → (∀ q, 16 ≤ q → w q = w0 q) → (∀ w', (∀ q, q < 16 → w' q = w0 (16 + q)) → aw ET G d 182 176 [some (.ref 199), some (.int (nI 16))] [] 231 sl (mem X (va_up Y 204 w')) Q) → aw ET G d 182 149 [some (.ref 199), some (.int (nI k))] [] 231 sl (mem X (va_up Y 204 w)) Q := by
  intro r
  induction r with
  | zero =>
    intro k w hk h0 h1 hQ
    have : k = 16 := by omega
    subst this
    have := hQ w h0
    simp (disch := omega) [w182_149, w182_150, w182_152, rt182, aw_st, ai_cls, ai_len, ai_p, ai_sw, ai_m, ai_c, ai_at, ai_isI, ai_isJ, ai_isA, ai_ld, ai_1i, ai_2i, ai_2l, ai_cn, ai_j, ai_set, ai_set2, ai_nl, ai_rs, ai_sm, Value.category, hk0, hk1, lits, litb, litm, litm2, List.getElem?_cons_zero, List.getElem?_cons_succ, or_n0, bit_r, fi0, fi1, fi2, fi3, nI_toInt, nI_add, pk_mul, nI_leI, nI_ltI, nI_eq, pk_sub, ib_nI, nI_clamp, va_up_self, va_up_ne, va_up_up, va_up_comm, pk_us, pk_un, upd_up, updL_up, pk_uLs, pk_uLn, b01_1, b01_0, b01_1s, b01_0s, or_b, mm200, mu200, mm201, mu201, mm202, mu202, mm203, mu203, mm204, mu204, mm205, mu205, mm206, mu206, mm207, mu207, mm208, mu208, mm209, mu209, mm210, mu210, mm211, mu211, mm212, mu212, mm213, mu213, mm214, mu214, mm215, mu215, mm216, mu216, mm217, mu217, mm218, mu218, mm219, mu219, mm220, mu220, mm221, mu221, mm222, mu222, mm223, mu223, mm224, mu224, mm225, mu225, mm226, mu226, mm227, mu227, mm228, mu228, mm229, mu229, mm230, mu230]
    exact this
  | succ r ih =>
    intro k w hk h0 h1 hQ
    have := ih (k + 1) (vp_updL w k (w (16 + k))) (by omega) (fun q hq => by
      by_cases e : q = k
      · subst e; rw [pk_uLs]; exact h1 _ (by omega)
      · rw [pk_uLn e]; exact h0 q (by omega)) (fun q hq => by rw [pk_uLn (by omega)]; exact h1 q hq) hQ
    rw [w182_149]
    simp (disch := omega) [w182_150, w182_152, w182_155, x182_156, w182_159, w182_160, x182_161, w182_164, w182_166, w182_167, w182_168, w182_169, w182_170, w182_173, rt182, aw_st, ai_cls, ai_len, ai_p, ai_sw, ai_m, ai_c, ai_at, ai_isI, ai_isJ, ai_isA, ai_ld, ai_1i, ai_2i, ai_2l, ai_cn, ai_j, ai_set, ai_set2, ai_nl, ai_rs, ai_sm, Value.category, hk0, hk1, lits, litb, litm, litm2, List.getElem?_cons_zero, List.getElem?_cons_succ, or_n0, bit_r, fi0, fi1, fi2, fi3, nI_toInt, nI_add, pk_mul, nI_leI, nI_ltI, nI_eq, pk_sub, ib_nI, nI_clamp, va_up_self, va_up_ne, va_up_up, va_up_comm, pk_us, pk_un, upd_up, updL_up, pk_uLs, pk_uLn, b01_1, b01_0, b01_1s, b01_0s, or_b, mm200, mu200, mm201, mu201, mm202, mu202, mm203, mu203, mm204, mu204, mm205, mu205, mm206, mu206, mm207, mu207, mm208, mu208, mm209, mu209, mm210, mu210, mm211, mu211, mm212, mu212, mm213, mu213, mm214, mu214, mm215, mu215, mm216, mu216, mm217, mu217, mm218, mu218, mm219, mu219, mm220, mu220, mm221, mu221, mm222, mu222, mm223, mu223, mm224, mu224, mm225, mu225, mm226, mu226, mm227, mu227, mm228, mu228, mm229, mu229, mm230, mu230, mm204, mu204, show ¬ 16 ≤ k by omega]
    exact this
/-- what s holds behind the third loop -/
def S3 (s0 s : Nat → Int32) (S k : Nat) : Prop := (∀ q, q < k → s (137 + q) = s0 (4 + q) ∧ s (145 + q) = s0 (12 + q) ∧ s (249 + q) = if q < S then nI 1 <<< (s0 (44 + q) &&& 31) else nI 0) ∧ (∀ j, ¬ (137 ≤ j ∧ j < 153) → ¬ (249 ≤ j ∧ j < 257) → s j = s0 j)
set_option maxHeartbeats 8000000 in
set_option maxRecDepth 40000 in
theorem rt_k {s0 : Nat → Int32} (hS : S ≤ 8) (h1 : s0 1 = nI S) : ∀ (r k : Nat) (s : Nat → Int32), k + r = 8 → S3 s0 s S k → (∀ s', S3 s0 s' S 8 → aw ET G d 182 262 [some (.ref 199), some (.int (nI 8))] [] 231 sl (mem (va_up X 201 s') Y) Q) → aw ET G d 182 178 [some (.ref 199), some (.int (nI k))] [] 231 sl (mem (va_up X 201 s) Y) Q := by
  intro r
  induction r with
  | zero =>
    intro k s hk h0 hQ
    have : k = 8 := by omega
    subst this
    have := hQ s h0
    simp (disch := omega) [w182_178, w182_179, w182_181, rt182, aw_st, ai_cls, ai_len, ai_p, ai_sw, ai_m, ai_c, ai_at, ai_isI, ai_isJ, ai_isA, ai_ld, ai_1i, ai_2i, ai_2l, ai_cn, ai_j, ai_set, ai_set2, ai_nl, ai_rs, ai_sm, Value.category, hk0, hk1, lits, litb, litm, litm2, List.getElem?_cons_zero, List.getElem?_cons_succ, or_n0, bit_r, fi0, fi1, fi2, fi3, nI_toInt, nI_add, pk_mul, nI_leI, nI_ltI, nI_eq, pk_sub, ib_nI, nI_clamp, va_up_self, va_up_ne, va_up_up, va_up_comm, pk_us, pk_un, upd_up, updL_up, pk_uLs, pk_uLn, b01_1, b01_0, b01_1s, b01_0s, or_b, mm200, mu200, mm201, mu201, mm202, mu202, mm203, mu203, mm204, mu204, mm205, mu205, mm206, mu206, mm207, mu207, mm208, mu208, mm209, mu209, mm210, mu210, mm211, mu211, mm212, mu212, mm213, mu213, mm214, mu214, mm215, mu215, mm216, mu216, mm217, mu217, mm218, mu218, mm219, mu219, mm220, mu220, mm221, mu221, mm222, mu222, mm223, mu223, mm224, mu224, mm225, mu225, mm226, mu226, mm227, mu227, mm228, mu228, mm229, mu229, mm230, mu230]
    exact this
  | succ r ih =>
    intro k s hk h0 hQ
    have g1 : s 1 = nI S := by rw [h0.2 1 (by omega) (by omega)]; exact h1
    have g4 : s (4 + k) = s0 (4 + k) := h0.2 _ (by omega) (by omega)
    have g12 : s (12 + k) = s0 (12 + k) := h0.2 _ (by omega) (by omega)
    have g44 : s (44 + k) = s0 (44 + k) := h0.2 _ (by omega) (by omega)
    have hstep := fun (v : Int32) (hv : v = if k < S then nI 1 <<< (s0 (44 + k) &&& 31) else nI 0) => ih (k + 1) (upd (upd (upd s (137 + k) (s0 (4 + k))) (145 + k) (s0 (12 + k))) (249 + k) v) (by omega) (by
      refine ⟨fun q hq => ?_, fun j j1 j2 => ?_⟩
      · by_cases e : q = k
        · subst e
          refine ⟨?_, ?_, ?_⟩
          · rw [pk_un (by omega), pk_un (by omega), pk_us]
          · rw [pk_un (by omega), pk_us]
          · rw [pk_us]; exact hv
        · obtain ⟨a1, a2, a3⟩ := h0.1 q (by omega)
          refine ⟨?_, ?_, ?_⟩
          · rw [pk_un (by omega), pk_un (by omega), pk_un (by omega)]; exact a1
          · rw [pk_un (by omega), pk_un (by omega), pk_un (by omega)]; exact a2
          · rw [pk_un (by omega), pk_un (by omega), pk_un (by omega)]; exact a3
      · rw [pk_un (by omega), pk_un (by omega), pk_un (by omega)]; exact h0.2 j j1 j2) hQ
    rw [w182_178]
    by_cases e : k < S
    · have := hstep (nI 1 <<< (s0 (44 + k) &&& 31)) (by rw [if_pos e])
      simp (disch := omega) [w182_179, w182_181, w182_184, x182_185, w182_188, w182_191, w182_192, w182_193, x182_194, w182_197, w182_198, w182_199, w182_200, w182_201, w182_202, x182_203, w182_206, w182_209, w182_210, w182_211, x182_212, w182_215, w182_217, w182_218, w182_219, w182_220, w182_221, x182_222, w182_225, w182_228, w182_229, w182_230, w182_231, x182_232, w182_235, w182_236, w182_237, w182_240, w182_241, x182_242, w182_245, w182_247, w182_248, w182_249, w182_250, w182_251, w182_254, w182_255, w182_256, w182_259, rt182, aw_st, ai_cls, ai_len, ai_p, ai_sw, ai_m, ai_c, ai_at, ai_isI, ai_isJ, ai_isA, ai_ld, ai_1i, ai_2i, ai_2l, ai_cn, ai_j, ai_set, ai_set2, ai_nl, ai_rs, ai_sm, Value.category, hk0, hk1, lits, litb, litm, litm2, List.getElem?_cons_zero, List.getElem?_cons_succ, or_n0, bit_r, fi0, fi1, fi2, fi3, nI_toInt, nI_add, pk_mul, nI_leI, nI_ltI, nI_eq, pk_sub, ib_nI, nI_clamp, va_up_self, va_up_ne, va_up_up, va_up_comm, pk_us, pk_un, upd_up, updL_up, pk_uLs, pk_uLn, b01_1, b01_0, b01_1s, b01_0s, or_b, mm200, mu200, mm201, mu201, mm202, mu202, mm203, mu203, mm204, mu204, mm205, mu205, mm206, mu206, mm207, mu207, mm208, mu208, mm209, mu209, mm210, mu210, mm211, mu211, mm212, mu212, mm213, mu213, mm214, mu214, mm215, mu215, mm216, mu216, mm217, mu217, mm218, mu218, mm219, mu219, mm220, mu220, mm221, mu221, mm222, mu222, mm223, mu223, mm224, mu224, mm225, mu225, mm226, mu226, mm227, mu227, mm228, mu228, mm229, mu229, mm230, mu230, mm201, mu201, g1, g4, g12, g44, show ¬ 8 ≤ k by omega, show ¬ S ≤ k by omega]
      exact this
    · have := hstep (nI 0) (by rw [if_neg e])
      simp (disch := omega) [w182_179, w182_181, w182_184, x182_185, w182_188, w182_191, w182_192, w182_193, x182_194, w182_197, w182_198, w182_199, w182_200, w182_201, w182_202, x182_203, w182_206, w182_209, w182_210, w182_211, x182_212, w182_215, w182_217, w182_218, w182_219, w182_220, w182_221, x182_222, w182_225, w182_228, w182_229, w182_230, w182_231, x182_232, w182_235, w182_236, w182_237, w182_240, w182_241, x182_242, w182_245, w182_247, w182_248, w182_249, w182_250, w182_251, w182_254, w182_255, w182_256, w182_259, rt182, aw_st, ai_cls, ai_len, ai_p, ai_sw, ai_m, ai_c, ai_at, ai_isI, ai_isJ, ai_isA, ai_ld, ai_1i, ai_2i, ai_2l, ai_cn, ai_j, ai_set, ai_set2, ai_nl, ai_rs, ai_sm, Value.category, hk0, hk1, lits, litb, litm, litm2, List.getElem?_cons_zero, List.getElem?_cons_succ, or_n0, bit_r, fi0, fi1, fi2, fi3, nI_toInt, nI_add, pk_mul, nI_leI, nI_ltI, nI_eq, pk_sub, ib_nI, nI_clamp, va_up_self, va_up_ne, va_up_up, va_up_comm, pk_us, pk_un, upd_up, updL_up, pk_uLs, pk_uLn, b01_1, b01_0, b01_1s, b01_0s, or_b, mm200, mu200, mm201, mu201, mm202, mu202, mm203, mu203, mm204, mu204, mm205, mu205, mm206, mu206, mm207, mu207, mm208, mu208, mm209, mu209, mm210, mu210, mm211, mu211, mm212, mu212, mm213, mu213, mm214, mu214, mm215, mu215, mm216, mu216, mm217, mu217, mm218, mu218, mm219, mu219, mm220, mu220, mm221, mu221, mm222, mu222, mm223, mu223, mm224, mu224, mm225, mu225, mm226, mu226, mm227, mu227, mm228, mu228, mm229, mu229, mm230, mu230, mm201, mu201, g1, g4, g12, g44, show ¬ 8 ≤ k by omega, show S ≤ k by omega]
      exact this
set_option maxHeartbeats 4000000 in
theorem rt_o {s0 : Nat → Int32} : ∀ (r k : Nat) (s : Nat → Int32), k + r = 64 → (∀ q, q < k → s (177 + q) = s0 (68 + q)) → (∀ j, ¬ (177 ≤ j ∧ j < 241) → s j = s0 j) → (∀ s', (∀ q, q < 64 → s' (177 + q) = s0 (68 + q)) → (∀ j, ¬ (177 ≤ j ∧ j < 241) → s' j = s0 j) → aw ET G d 182 295 [some (.ref 199), some (.int (nI 64))] [] 231 sl (mem (va_up X 201 s') Y) Q) → aw ET G d 182 264 [some (.ref 199), some (.int (nI k))] [] 231 sl (mem (va_up X 201 s) Y) Q := by
  intro r
  induction r with
  | zero =>
    intro k s hk h0 h1 hQ
    have : k = 64 := by omega
    subst this
    have := hQ s h0 h1
    simp (disch := omega) [w182_264, w182_265, w182_267, rt182, aw_st, ai_cls, ai_len, ai_p, ai_sw, ai_m, ai_c, ai_at, ai_isI, ai_isJ, ai_isA, ai_ld, ai_1i, ai_2i, ai_2l, ai_cn, ai_j, ai_set, ai_set2, ai_nl, ai_rs, ai_sm, Value.category, hk0, hk1, lits, litb, litm, litm2, List.getElem?_cons_zero, List.getElem?_cons_succ, or_n0, bit_r, fi0, fi1, fi2, fi3, nI_toInt, nI_add, pk_mul, nI_leI, nI_ltI, nI_eq, pk_sub, ib_nI, nI_clamp, va_up_self, va_up_ne, va_up_up, va_up_comm, pk_us, pk_un, upd_up, updL_up, pk_uLs, pk_uLn, b01_1, b01_0, b01_1s, b01_0s, or_b, mm200, mu200, mm201, mu201, mm202, mu202, mm203, mu203, mm204, mu204, mm205, mu205, mm206, mu206, mm207, mu207, mm208, mu208, mm209, mu209, mm210, mu210, mm211, mu211, mm212, mu212, mm213, mu213, mm214, mu214, mm215, mu215, mm216, mu216, mm217, mu217, mm218, mu218, mm219, mu219, mm220, mu220, mm221, mu221, mm222, mu222, mm223, mu223, mm224, mu224, mm225, mu225, mm226, mu226, mm227, mu227, mm228, mu228, mm229, mu229, mm230, mu230]
    exact this
  | succ r ih =>
    intro k s hk h0 h1 hQ
    have g : s (68 + k) = s0 (68 + k) := h1 _ (by omega)
    have := ih (k + 1) (upd s (177 + k) (s0 (68 + k))) (by omega) (fun q hq => by
      by_cases e : q = k
      · subst e; rw [pk_us]
      · rw [pk_un (by omega)]; exact h0 q (by omega)) (fun j hj => by rw [pk_un (by omega)]; exact h1 j hj) hQ
    rw [w182_264]
    simp (disch := omega) [w182_265, w182_267, w182_270, x182_271, w182_274, w182_277, w182_278, w182_279, x182_280, w182_283, w182_285, w182_286, w182_287, w182_288, w182_289, w182_292, rt182, aw_st, ai_cls, ai_len, ai_p, ai_sw, ai_m, ai_c, ai_at, ai_isI, ai_isJ, ai_isA, ai_ld, ai_1i, ai_2i, ai_2l, ai_cn, ai_j, ai_set, ai_set2, ai_nl, ai_rs, ai_sm, Value.category, hk0, hk1, lits, litb, litm, litm2, List.getElem?_cons_zero, List.getElem?_cons_succ, or_n0, bit_r, fi0, fi1, fi2, fi3, nI_toInt, nI_add, pk_mul, nI_leI, nI_ltI, nI_eq, pk_sub, ib_nI, nI_clamp, va_up_self, va_up_ne, va_up_up, va_up_comm, pk_us, pk_un, upd_up, updL_up, pk_uLs, pk_uLn, b01_1, b01_0, b01_1s, b01_0s, or_b, mm200, mu200, mm201, mu201, mm202, mu202, mm203, mu203, mm204, mu204, mm205, mu205, mm206, mu206, mm207, mu207, mm208, mu208, mm209, mu209, mm210, mu210, mm211, mu211, mm212, mu212, mm213, mu213, mm214, mu214, mm215, mu215, mm216, mu216, mm217, mu217, mm218, mu218, mm219, mu219, mm220, mu220, mm221, mu221, mm222, mu222, mm223, mu223, mm224, mu224, mm225, mu225, mm226, mu226, mm227, mu227, mm228, mu228, mm229, mu229, mm230, mu230, mm201, mu201, g, show ¬ 64 ≤ k by omega]
    exact this
/-- what the town is made of -/
def SD (s : Nat → Int32) (D : TD) (S : Nat) : Prop := (∀ j, j < 132 → s j = D.1 j) ∧ (∀ q, q < 8 → s (137 + q) = D.1 (4 + q) ∧ s (145 + q) = D.1 (12 + q) ∧ s (249 + q) = if q < S then nI 1 <<< (D.1 (44 + q) &&& 31) else nI 0) ∧ (∀ q, q < 64 → s (177 + q) = D.1 (68 + q)) ∧ (∀ j, 132 ≤ j → j < 438 → ¬ (137 ≤ j ∧ j < 153) → ¬ (249 ≤ j ∧ j < 257) → ¬ (177 ≤ j ∧ j < 241) → s j = nI 0)
/-- what a text that is taken leaves as it was -/
def RTT (X : mX) (Y : mY) (X' : mX) (Y' : mY) : Prop := (∀ k, ¬ k = 199 → ¬ k = 202 → X' k = X k) ∧ (∀ k, ¬ k = 199 → ¬ k = 204 → Y' k = Y k) ∧ (∀ q, q < 16 → Y' 204 q = Y 204 q) ∧ (∀ j, ¬ j = 0 → ¬ (2 ≤ j ∧ j ≤ 5) → ¬ (11 ≤ j ∧ j ≤ 16) → ¬ (18 ≤ j ∧ j ≤ 21) → X' 199 j = X 199 j) ∧ X' 199 0 = nI 0 ∧ X' 199 2 = nI 0
set_option maxHeartbeats 8000000 in
theorem rtown_wp (hR : ∀ k, k < 21 → Y 205 k = kl k) (hT : TB8 (X 200) t) (h2 : X 199 2 = nI n) (hn : n ≤ 940) (hQ1 : ∀ e j, sTown (t, n, 900) 941 0 0 (rD0 X) = .inl (e, j) → ∀ X' Y', RTT X Y X' Y' → X' 199 15 = nI e → Q [.int (mi1 - nI (cP (t, n, 900) j))] 231 sl (mem X' Y')) (hQ2 : ∀ m D, sTown (t, n, 900) 941 0 0 (rD0 X) = .inr (m, D) → ∀ X' Y' P S s w, RT X' Y' D P S → RTT X Y X' Y' → X' 199 15 = nI 0 → SD s D S → (∀ q, q < 16 → w q = Y' 204 (16 + q)) → Q [.int (nI m)] 231 sl (mem (va_up (va_up X' 199 (upd (X' 199) 28 (nI 0))) 201 s) (va_up Y' 204 w))) : aw ET G (d + 4) 182 0 [some (.ref 199), none] [] 231 sl (mem X Y) Q := by
  simp (disch := omega) [w182_0, w182_1, x182_2, w182_5, w182_6, x182_9, w182_12, w182_13, x182_14, w182_17, w182_18, x182_19, w182_22, w182_23, x182_24 (v := nI 0) (Or.inl rfl), x182_24 (v := nI 1) (Or.inr rfl), w182_27, w182_28, x182_29 (v := nI 0) (Or.inl rfl), x182_29 (v := nI 1) (Or.inr rfl), w182_32, w182_33, rt182, aw_st, ai_cls, ai_len, ai_p, ai_sw, ai_m, ai_c, ai_at, ai_isI, ai_isJ, ai_isA, ai_ld, ai_1i, ai_2i, ai_2l, ai_cn, ai_j, ai_set, ai_set2, ai_nl, ai_rs, ai_sm, Value.category, hk0, hk1, lits, litb, litm, litm2, List.getElem?_cons_zero, List.getElem?_cons_succ, or_n0, bit_r, fi0, fi1, fi2, fi3, nI_toInt, nI_add, pk_mul, nI_leI, nI_ltI, nI_eq, pk_sub, ib_nI, nI_clamp, va_up_self, va_up_ne, va_up_up, va_up_comm, pk_us, pk_un, upd_up, updL_up, pk_uLs, pk_uLn, b01_1, b01_0, b01_1s, b01_0s, or_b, mm200, mu200, mm201, mu201, mm202, mu202, mm203, mu203, mm204, mu204, mm205, mu205, mm206, mu206, mm207, mu207, mm208, mu208, mm209, mu209, mm210, mu210, mm211, mu211, mm212, mu212, mm213, mu213, mm214, mu214, mm215, mu215, mm216, mu216, mm217, mu217, mm218, mu218, mm219, mu219, mm220, mu220, mm221, mu221, mm222, mu222, mm223, mu223, mm224, mu224, mm225, mu225, mm226, mu226, mm227, mu227, mm228, mu228, mm229, mu229, mm230, mu230, taken_eq, h2]
  generalize hz : va_up X 199 _ = Z
  have z199 : ∀ j, ¬ j = 0 → ¬ (2 ≤ j ∧ j ≤ 5) → ¬ (11 ≤ j ∧ j ≤ 16) → ¬ (18 ≤ j ∧ j ≤ 21) → Z 199 j = X 199 j := fun j j1 j2 j3 j4 => by
    rw [← hz, va_up_self]
    simp (disch := omega) only [pk_un]
  have zo : ∀ k, ¬ k = 199 → Z k = X k := fun k hk => by rw [← hz, va_up_ne _ _ hk]
  have z0 : Z 199 0 = nI 0 := by rw [← hz, va_up_self]; simp [upd]
  have z2 : Z 199 2 = nI 0 := by rw [← hz, va_up_self]; simp [upd]
  have z3 : Z 199 3 = nI n := by rw [← hz, va_up_self]; simp [upd]
  have z4 : Z 199 4 = nI 0 := by rw [← hz, va_up_self]; simp [upd]
  have z5 : Z 199 5 = nI 900 := by rw [← hz, va_up_self]; simp [upd]
  have z15 : Z 199 15 = nI 0 := by rw [← hz, va_up_self]; simp [upd]
  have z19 : Z 199 19 = nI 0 := by rw [← hz, va_up_self]; simp [upd]
  have z20 : Z 199 20 = nI 0 := by rw [← hz, va_up_self]; simp [upd]
  have z21 : Z 199 21 = nI 0 := by rw [← hz, va_up_self]; simp [upd]
  have hh := rt_h (G := G) (d := d + 4) (sl := sl) (Q := Q) (X := Z) (Y := Y) 132 0 (Z 202) (by omega) (fun q hq => by omega) (fun q hq => rfl) (fun h' a b => by
    have eD : upd h' 3 (nI 10) = (rD0 X).1 := by
      funext j
      simp only [rD0, upd]
      by_cases e : j = 3
      · simp [e]
      · simp only [e, if_false]
        by_cases e2 : j < 132
        · simp only [e2, if_true]; exact a j e2
        · simp only [e2, if_false]; rw [b j (by omega), zo 202 (by omega)]
    simp (disch := omega) [w182_54, x182_55, w182_58, w182_59, w182_61, w182_62, x182_63, rt182, aw_st, ai_cls, ai_len, ai_p, ai_sw, ai_m, ai_c, ai_at, ai_isI, ai_isJ, ai_isA, ai_ld, ai_1i, ai_2i, ai_2l, ai_cn, ai_j, ai_set, ai_set2, ai_nl, ai_rs, ai_sm, Value.category, hk0, hk1, lits, litb, litm, litm2, List.getElem?_cons_zero, List.getElem?_cons_succ, or_n0, bit_r, fi0, fi1, fi2, fi3, nI_toInt, nI_add, pk_mul, nI_leI, nI_ltI, nI_eq, pk_sub, ib_nI, nI_clamp, va_up_self, va_up_ne, va_up_up, va_up_comm, pk_us, pk_un, upd_up, updL_up, pk_uLs, pk_uLn, b01_1, b01_0, b01_1s, b01_0s, or_b, mm200, mu200, mm201, mu201, mm202, mu202, mm203, mu203, mm204, mu204, mm205, mu205, mm206, mu206, mm207, mu207, mm208, mu208, mm209, mu209, mm210, mu210, mm211, mu211, mm212, mu212, mm213, mu213, mm214, mu214, mm215, mu215, mm216, mu216, mm217, mu217, mm218, mu218, mm219, mu219, mm220, mu220, mm221, mu221, mm222, mu222, mm223, mu223, mm224, mu224, mm225, mu225, mm226, mu226, mm227, mu227, mm228, mu228, mm229, mu229, mm230, mu230, mm202, mu202]
    rw [eD]
    generalize hz2 : va_up Z 202 (rD0 X).1 = Z2
    have y199 : Z2 199 = Z 199 := by rw [← hz2, va_up_ne _ _ (by omega)]
    have yo : ∀ k, ¬ k = 202 → Z2 k = Z k := fun k hk => by rw [← hz2, va_up_ne _ _ hk]
    have y202 : Z2 202 = (rD0 X).1 := by rw [← hz2, va_up_self]
    have okc : OKr (t, n, 900) Z2 := ⟨by rw [yo 200 (by omega), zo 200 (by omega)]; exact hT, hn, by show 900 ≤ 940; omega⟩
    have hgo : ∀ (Q : List Value → Nat → Nat → ai_M → Prop), (∀ X' Y', HX Z2 Y X' Y' → RDR (t, n, 900) 0 (X' 199) (Y' 199) → X' 199 15 = Z2 199 15 → Q [] 231 sl (mem X' Y')) → aw ET G (d + 3) 184 0 [some (.ref 199), none, none, none] [] 231 sl (mem Z2 Y) Q := by
      intro Q hq
      have := go_wp (G := G) (d := d + 2) (sl := sl) (Q := Q) (X := Z2) (Y := Y) (c := (t, n, 900)) (i := 0) (F := Z2 199) (W := Y 199) (by rw [y199]; exact z3) (by rw [y199]; exact z4) (by rw [y199]; exact z5) okc (by show 0 ≤ n; omega) (fun F' W' r g w => hq _ _ (HX_F g.fe) (by rw [va_up_self, va_up_self]; exact r) (by rw [va_up_self]; exact g 15 (by omega) (by omega)))
      rw [va_id, va_id] at this
      exact this
    refine hgo _ (fun X1 Y1 y1 r1 f1 => ?_)
    have f1b : ∀ j, ¬ j = 0 → ¬ (2 ≤ j ∧ j ≤ 5) → ¬ (11 ≤ j ∧ j ≤ 16) → ¬ (18 ≤ j ∧ j ≤ 21) → X1 199 j = X 199 j := fun j j1 j2 j3 j4 => by rw [y1.2.2 j (by omega) (by omega) (by omega), y199, z199 j j1 j2 j3 j4]
    have hrt1 : RT X1 Y1 (rD0 X) 0 0 := ⟨by omega, by omega, by rw [y1.1 202 (by omega), y202], by simp [rD0], by simp [rD0], fun q hq => by omega, fun q hq => by omega, by rw [y1.2.2 20 (by omega) (by omega) (by omega), y199, z20]; rfl, by rw [y1.2.2 21 (by omega) (by omega) (by omega), y199, z21]; rfl⟩
    have hft : ∀ X' Y', RH X1 Y1 X' Y' → RTT X Y X' Y' := fun X' Y' g => ⟨fun k k1 k2 => by rw [g.1 k k1 k2, y1.1 k k1, yo k k2, zo k k1], fun k k1 k2 => by rw [g.2.1 k k1 k2, y1.2.1 k k1], fun q hq => by rw [g.2.2.1 q hq, y1.2.1 204 (by omega)], fun j j1 j2 j3 j4 => by rw [g.2.2.2 j (by omega) j3 j4, f1b j j1 j2 j3 j4], by rw [g.2.2.2 0 (by omega) (by omega) (by omega), y1.2.2 0 (by omega) (by omega) (by omega), y199, z0], by rw [g.2.2.2 2 (by omega) (by omega) (by omega), y1.2.2 2 (by omega) (by omega) (by omega), y199, z2]⟩
    refine rtown_loop (c := (t, n, 900)) 941 0 0 (rD0 X) X1 Y1 0 0 (by show n < 0 + 941; omega) (by omega) (fun k hk => by rw [y1.2.1 205 (by omega)]; exact hR k hk) hrt1 r1 (OKr_cg okc (y1.1 200 (by omega))) (by show 0 ≤ n; omega) (by rw [y1.2.2 19 (by omega) (by omega) (by omega), y199, z19]) (fun e j es X' Y' g b15 b16 => ?_) (fun m D es X' Y' P S hrt g b19 b15 => ?_)
    · exact hQ1 e j es X' Y' (hft X' Y' g) b15
    · have k15 : X' 199 15 = nI 0 := by rw [b15, f1, y199, z15]
      obtain ⟨t1, t2, t3, t4, t5, t6, t7, t8, t9⟩ := hrt
      have := hQ2 m D es X' Y' P S
      have hs := rt_s (G := G) (d := d + 4) (sl := sl) (Q := Q) (X := X') (Y := Y') 438 0 (X' 201) (by omega) (fun q hq => by omega) (fun s1 hs1 => by
        have s11 : s1 1 = nI S := by rw [hs1 1 (by omega), if_pos (by omega), t3, t5]
        have hn2 := rt_n (G := G) (d := d + 4) (sl := sl) (Q := Q) (X := va_up X' 201 s1) (Y := Y') (w0 := Y' 204) 16 0 (Y' 204) (by omega) (fun q hq => by omega) (fun q hq => rfl) (fun w hw => by
          have hk3 := rt_k (G := G) (d := d + 4) (sl := sl) (Q := Q) (X := X') (Y := va_up Y' 204 w) t2 s11 8 0 s1 (by omega) ⟨fun q hq => by omega, fun j _ _ => rfl⟩ (fun s2 hs2 => by
            have ho := rt_o (G := G) (d := d + 4) (sl := sl) (Q := Q) (X := X') (Y := va_up Y' 204 w) (s0 := s2) 64 0 s2 (by omega) (fun q hq => by omega) (fun j hj => rfl) (fun s3 a3 b3 => by
              have hsd : SD s3 D S := by
                refine ⟨fun j hj => ?_, fun q hq => ?_, fun q hq => ?_, fun j j1 j2 j3 j4 j5 => ?_⟩
                · rw [b3 j (by omega), hs2.2 j (by omega) (by omega), hs1 j (by omega), if_pos hj, t3]
                · obtain ⟨u1, u2, u3⟩ := hs2.1 q hq
                  refine ⟨?_, ?_, ?_⟩
                  · rw [b3 _ (by omega), u1, hs1 _ (by omega), if_pos (by omega), t3]
                  · rw [b3 _ (by omega), u2, hs1 _ (by omega), if_pos (by omega), t3]
                  · rw [b3 _ (by omega), u3, hs1 (44 + q) (by omega), if_pos (show 44 + q < 132 by omega), t3]
                · rw [a3 q hq, hs2.2 _ (by omega) (by omega), hs1 _ (by omega), if_pos (by omega), t3]
                · rw [b3 j (by omega), hs2.2 j (by omega) (by omega), hs1 j j2, if_neg (by omega)]
              have := hQ2 m D es X' Y' P S s3 w ⟨t1, t2, t3, t4, t5, t6, t7, t8, t9⟩ (hft X' Y' g) k15 hsd hw
              simp (disch := omega) [w182_295, w182_296, x182_297, w182_300, x182_301, w182_304, rt182, aw_st, ai_cls, ai_len, ai_p, ai_sw, ai_m, ai_c, ai_at, ai_isI, ai_isJ, ai_isA, ai_ld, ai_1i, ai_2i, ai_2l, ai_cn, ai_j, ai_set, ai_set2, ai_nl, ai_rs, ai_sm, Value.category, hk0, hk1, lits, litb, litm, litm2, List.getElem?_cons_zero, List.getElem?_cons_succ, or_n0, bit_r, fi0, fi1, fi2, fi3, nI_toInt, nI_add, pk_mul, nI_leI, nI_ltI, nI_eq, pk_sub, ib_nI, nI_clamp, va_up_self, va_up_ne, va_up_up, va_up_comm, pk_us, pk_un, upd_up, updL_up, pk_uLs, pk_uLn, b01_1, b01_0, b01_1s, b01_0s, or_b, mm200, mu200, mm201, mu201, mm202, mu202, mm203, mu203, mm204, mu204, mm205, mu205, mm206, mu206, mm207, mu207, mm208, mu208, mm209, mu209, mm210, mu210, mm211, mu211, mm212, mu212, mm213, mu213, mm214, mu214, mm215, mu215, mm216, mu216, mm217, mu217, mm218, mu218, mm219, mu219, mm220, mu220, mm221, mu221, mm222, mu222, mm223, mu223, mm224, mu224, mm225, mu225, mm226, mu226, mm227, mu227, mm228, mu228, mm229, mu229, mm230, mu230, b19]
              exact this)
            simp (disch := omega) [w182_262, w182_263, rt182, aw_st, ai_cls, ai_len, ai_p, ai_sw, ai_m, ai_c, ai_at, ai_isI, ai_isJ, ai_isA, ai_ld, ai_1i, ai_2i, ai_2l, ai_cn, ai_j, ai_set, ai_set2, ai_nl, ai_rs, ai_sm, Value.category, hk0, hk1, lits, litb, litm, litm2, List.getElem?_cons_zero, List.getElem?_cons_succ, or_n0, bit_r, fi0, fi1, fi2, fi3, nI_toInt, nI_add, pk_mul, nI_leI, nI_ltI, nI_eq, pk_sub, ib_nI, nI_clamp, va_up_self, va_up_ne, va_up_up, va_up_comm, pk_us, pk_un, upd_up, updL_up, pk_uLs, pk_uLn, b01_1, b01_0, b01_1s, b01_0s, or_b, mm200, mu200, mm201, mu201, mm202, mu202, mm203, mu203, mm204, mu204, mm205, mu205, mm206, mu206, mm207, mu207, mm208, mu208, mm209, mu209, mm210, mu210, mm211, mu211, mm212, mu212, mm213, mu213, mm214, mu214, mm215, mu215, mm216, mu216, mm217, mu217, mm218, mu218, mm219, mu219, mm220, mu220, mm221, mu221, mm222, mu222, mm223, mu223, mm224, mu224, mm225, mu225, mm226, mu226, mm227, mu227, mm228, mu228, mm229, mu229, mm230, mu230]
            exact ho)
          simp (disch := omega) [w182_176, w182_177, rt182, aw_st, ai_cls, ai_len, ai_p, ai_sw, ai_m, ai_c, ai_at, ai_isI, ai_isJ, ai_isA, ai_ld, ai_1i, ai_2i, ai_2l, ai_cn, ai_j, ai_set, ai_set2, ai_nl, ai_rs, ai_sm, Value.category, hk0, hk1, lits, litb, litm, litm2, List.getElem?_cons_zero, List.getElem?_cons_succ, or_n0, bit_r, fi0, fi1, fi2, fi3, nI_toInt, nI_add, pk_mul, nI_leI, nI_ltI, nI_eq, pk_sub, ib_nI, nI_clamp, va_up_self, va_up_ne, va_up_up, va_up_comm, pk_us, pk_un, upd_up, updL_up, pk_uLs, pk_uLn, b01_1, b01_0, b01_1s, b01_0s, or_b, mm200, mu200, mm201, mu201, mm202, mu202, mm203, mu203, mm204, mu204, mm205, mu205, mm206, mu206, mm207, mu207, mm208, mu208, mm209, mu209, mm210, mu210, mm211, mu211, mm212, mu212, mm213, mu213, mm214, mu214, mm215, mu215, mm216, mu216, mm217, mu217, mm218, mu218, mm219, mu219, mm220, mu220, mm221, mu221, mm222, mu222, mm223, mu223, mm224, mu224, mm225, mu225, mm226, mu226, mm227, mu227, mm228, mu228, mm229, mu229, mm230, mu230]
          exact hk3)
        rw [va_id] at hn2
        simp (disch := omega) [w182_147, w182_148, rt182, aw_st, ai_cls, ai_len, ai_p, ai_sw, ai_m, ai_c, ai_at, ai_isI, ai_isJ, ai_isA, ai_ld, ai_1i, ai_2i, ai_2l, ai_cn, ai_j, ai_set, ai_set2, ai_nl, ai_rs, ai_sm, Value.category, hk0, hk1, lits, litb, litm, litm2, List.getElem?_cons_zero, List.getElem?_cons_succ, or_n0, bit_r, fi0, fi1, fi2, fi3, nI_toInt, nI_add, pk_mul, nI_leI, nI_ltI, nI_eq, pk_sub, ib_nI, nI_clamp, va_up_self, va_up_ne, va_up_up, va_up_comm, pk_us, pk_un, upd_up, updL_up, pk_uLs, pk_uLn, b01_1, b01_0, b01_1s, b01_0s, or_b, mm200, mu200, mm201, mu201, mm202, mu202, mm203, mu203, mm204, mu204, mm205, mu205, mm206, mu206, mm207, mu207, mm208, mu208, mm209, mu209, mm210, mu210, mm211, mu211, mm212, mu212, mm213, mu213, mm214, mu214, mm215, mu215, mm216, mu216, mm217, mu217, mm218, mu218, mm219, mu219, mm220, mu220, mm221, mu221, mm222, mu222, mm223, mu223, mm224, mu224, mm225, mu225, mm226, mu226, mm227, mu227, mm228, mu228, mm229, mu229, mm230, mu230]
        exact hn2)
      rw [va_id] at hs
      simp (disch := omega) [w182_109, w182_110, rt182, aw_st, ai_cls, ai_len, ai_p, ai_sw, ai_m, ai_c, ai_at, ai_isI, ai_isJ, ai_isA, ai_ld, ai_1i, ai_2i, ai_2l, ai_cn, ai_j, ai_set, ai_set2, ai_nl, ai_rs, ai_sm, Value.category, hk0, hk1, lits, litb, litm, litm2, List.getElem?_cons_zero, List.getElem?_cons_succ, or_n0, bit_r, fi0, fi1, fi2, fi3, nI_toInt, nI_add, pk_mul, nI_leI, nI_ltI, nI_eq, pk_sub, ib_nI, nI_clamp, va_up_self, va_up_ne, va_up_up, va_up_comm, pk_us, pk_un, upd_up, updL_up, pk_uLs, pk_uLn, b01_1, b01_0, b01_1s, b01_0s, or_b, mm200, mu200, mm201, mu201, mm202, mu202, mm203, mu203, mm204, mu204, mm205, mu205, mm206, mu206, mm207, mu207, mm208, mu208, mm209, mu209, mm210, mu210, mm211, mu211, mm212, mu212, mm213, mu213, mm214, mu214, mm215, mu215, mm216, mu216, mm217, mu217, mm218, mu218, mm219, mu219, mm220, mu220, mm221, mu221, mm222, mu222, mm223, mu223, mm224, mu224, mm225, mu225, mm226, mu226, mm227, mu227, mm228, mu228, mm229, mu229, mm230, mu230]
      exact hs)
  rw [va_id] at hh
  exact hh
end RTX
