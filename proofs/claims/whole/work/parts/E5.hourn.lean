/-! HOUR: the reference, the levels -/
section RHN
variable {G : ai_G} {d sl : Nat} {Q : List Value → Nat → Nat → ai_M → Prop} {Y : mY} {P S : Nat} {l k : Nat → Nat → Int32}
def lvlI (p : Nat) : Int32 := if p = 0 then mi1 else nI (p - 1)
theorem lvl_dec {p : Nat} (h : p < 100) : nI p + mi1 = lvlI p := by
  have : ∀ p, p < 100 → nI p + mi1 = lvlI p := by decide +kernel
  exact this p h
theorem lvl_s {p : Nat} : lvlI (p + 1) = nI p := by unfold lvlI; rw [if_neg (by omega)]; rfl
def ZR (X : mX) (z : Zh) (P : Nat) : Prop := z.2 = mi1 ∨ ∀ q, q < P → X 212 q = z.1 q
theorem ZR_cg {X X' : mX} {z : Zh} (h : ZR X z P) (e : X' 212 = X 212) : ZR X' z P := h.imp id (fun g q hq => by rw [e]; exact g q hq)
def FH (X X' : mX) (p : Nat) : Prop := (∀ j, ¬ j = 210 → ¬ j = 212 → X' j = X j) ∧ ∀ i, i < p → X' 210 i = X 210 i
theorem FH.tr {X X' X2 : mX} {p : Nat} (h : FH X X' p) (g : FH X' X2 p) : FH X X2 p := ⟨fun j a b => (g.1 j a b).trans (h.1 j a b), fun i a => (g.2 i a).trans (h.2 i a)⟩
theorem FH_210 {X : mX} {f : Nat → Int32} {p : Nat} (h : ∀ i, i < p → f i = X 210 i) : FH X (va_up X 210 f) p := ⟨fun j a _ => va_up_ne _ _ a, fun i a => by rw [va_up_self]; exact h i a⟩
/-- what a level does: T from p on -/
def LV (G : ai_G) (d sl : Nat) (Y : mY) (P S : Nat) (l k : Nat → Nat → Int32) (p : Nat) (T : Int32 → (Nat → Int32) → Zh → Zh) : Prop := ∀ (Q : List Value → Nat → Nat → ai_M → Prop) (X : mX) (pr : Nat → Int32) (met : Int32) (z : Zh) (v5 : Option Value), LSb (X 201) l → KS (X 201) k P S → HR (X 210) (X 211) pr P p → (p < P → X 210 p = mi1) → ZR X z P → (∀ X' v5, FH X X' p → ZR X' (T met pr z) P → aw ET G (d + 2) 236 47 [some (.ref 199), some (.int (nI P)), some (.int (T met pr z).2), some (.int met), some (.int (lvlI p)), v5] [] 231 sl (mem X' Y) Q) → aw ET G (d + 2) 236 47 [some (.ref 199), some (.int (nI P)), some (.int z.2), some (.int met), some (.int (nI p)), v5] [] 231 sl (mem X Y) Q
set_option maxHeartbeats 4000000 in
theorem level_P (hP : P ≤ 8) : LV G d sl Y P S l k P (fun met pr z => hkeep pr met z) := by
  intro Q X pr met z v5 hL hk h _ hz hQ
  rw [w236_47]
  by_cases c : z.2 < met
  · have c' : ¬ met ≤ z.2 := Int32.not_le.mpr c
    have e : hkeep pr met z = (va_cpy pr z.1 0 0 8, met) := by unfold hkeep; rw [if_pos c]
    simp only [e] at hQ
    simp (disch := omega) [w236_49, w236_52, w236_54, w236_55, w236_58, w236_59, w236_60, w236_63, w236_64, w236_65, w236_66, rt236, aw_st, ai_cls, ai_len, ai_p, ai_sw, ai_m, ai_c, ai_at, ai_isI, ai_isJ, ai_isA, ai_ld, ai_1i, ai_2i, ai_2l, ai_cn, ai_j, ai_set, ai_set2, ai_nl, ai_rs, ai_sm, Value.category, hk0, hk1, lits, litb, litm, litm2, List.getElem?_cons_zero, List.getElem?_cons_succ, or_n0, bit_r, fi0, fi1, fi2, fi3, nI_toInt, nI_add, pk_mul, nI_leI, nI_ltI, nI_eq, pk_sub, ib_nI, nI_clamp, va_up_self, va_up_ne, va_up_up, va_up_comm, pk_us, pk_un, upd_up, updL_up, pk_uLs, pk_uLn, b01_1, b01_0, b01_1s, b01_0s, or_b, mm200, mu200, mm201, mu201, mm202, mu202, mm203, mu203, mm204, mu204, mm205, mu205, mm206, mu206, mm207, mu207, mm208, mu208, mm209, mu209, mm210, mu210, mm211, mu211, mm212, mu212, mm213, mu213, mm214, mu214, mm215, mu215, mm216, mu216, mm217, mu217, mm218, mu218, mm219, mu219, mm220, mu220, mm221, mu221, mm222, mu222, mm223, mu223, mm224, mu224, mm225, mu225, mm226, mu226, mm227, mu227, mm228, mu228, mm229, mu229, mm230, mu230, c, c']
    refine leaf_loop (d := d + 1) hP P 0 X none (by omega) h (fun X' w5 a b e1 e2 => ?_)
    have := hQ X' (some (.int w5)) ⟨fun j _ j2 => b j j2, fun i _ => by rw [a]⟩ (Or.inr (fun q hq => by rw [e1 q (by omega) hq]; exact (cpy_in pr z.1 8 (by omega)).symm))
    simp (disch := omega) [w236_126, w236_129, rt236, aw_st, ai_cls, ai_len, ai_p, ai_sw, ai_m, ai_c, ai_at, ai_isI, ai_isJ, ai_isA, ai_ld, ai_1i, ai_2i, ai_2l, ai_cn, ai_j, ai_set, ai_set2, ai_nl, ai_rs, ai_sm, Value.category, hk0, hk1, lits, litb, litm, litm2, List.getElem?_cons_zero, List.getElem?_cons_succ, or_n0, bit_r, fi0, fi1, fi2, fi3, nI_toInt, nI_add, pk_mul, nI_leI, nI_ltI, nI_eq, pk_sub, ib_nI, nI_clamp, va_up_self, va_up_ne, va_up_up, va_up_comm, pk_us, pk_un, upd_up, updL_up, pk_uLs, pk_uLn, b01_1, b01_0, b01_1s, b01_0s, or_b, mm200, mu200, mm201, mu201, mm202, mu202, mm203, mu203, mm204, mu204, mm205, mu205, mm206, mu206, mm207, mu207, mm208, mu208, mm209, mu209, mm210, mu210, mm211, mu211, mm212, mu212, mm213, mu213, mm214, mu214, mm215, mu215, mm216, mu216, mm217, mu217, mm218, mu218, mm219, mu219, mm220, mu220, mm221, mu221, mm222, mu222, mm223, mu223, mm224, mu224, mm225, mu225, mm226, mu226, mm227, mu227, mm228, mu228, mm229, mu229, mm230, mu230, lvl_dec]
    exact this
  · have c' : met ≤ z.2 := Int32.not_lt.mp c
    have e : hkeep pr met z = z := by unfold hkeep; rw [if_neg c]
    simp only [e] at hQ
    have := hQ X v5 ⟨fun _ _ _ => rfl, fun _ _ => rfl⟩ hz
    simp (disch := omega) [w236_49, w236_52, w236_54, w236_55, w236_58, w236_59, w236_60, w236_126, w236_129, rt236, aw_st, ai_cls, ai_len, ai_p, ai_sw, ai_m, ai_c, ai_at, ai_isI, ai_isJ, ai_isA, ai_ld, ai_1i, ai_2i, ai_2l, ai_cn, ai_j, ai_set, ai_set2, ai_nl, ai_rs, ai_sm, Value.category, hk0, hk1, lits, litb, litm, litm2, List.getElem?_cons_zero, List.getElem?_cons_succ, or_n0, bit_r, fi0, fi1, fi2, fi3, nI_toInt, nI_add, pk_mul, nI_leI, nI_ltI, nI_eq, pk_sub, ib_nI, nI_clamp, va_up_self, va_up_ne, va_up_up, va_up_comm, pk_us, pk_un, upd_up, updL_up, pk_uLs, pk_uLn, b01_1, b01_0, b01_1s, b01_0s, or_b, mm200, mu200, mm201, mu201, mm202, mu202, mm203, mu203, mm204, mu204, mm205, mu205, mm206, mu206, mm207, mu207, mm208, mu208, mm209, mu209, mm210, mu210, mm211, mu211, mm212, mu212, mm213, mu213, mm214, mu214, mm215, mu215, mm216, mu216, mm217, mu217, mm218, mu218, mm219, mu219, mm220, mu220, mm221, mu221, mm222, mu222, mm223, mu223, mm224, mu224, mm225, mu225, mm226, mu226, mm227, mu227, mm228, mu228, mm229, mu229, mm230, mu230, c, c', lvl_dec]
    exact this
/-- the level p + 1 begun -/
def opX (X : mX) (P p : Nat) : mX := if p + 1 < P then va_up X 210 (upd (X 210) (p + 1) mi1) else X
theorem opX_at {X : mX} {p j : Nat} (h : ¬ j = 210) : opX X P p j = X j := by
  unfold opX
  split
  · rw [va_up_ne _ _ h]
  · rfl
theorem opX_lo {X : mX} {p i : Nat} (h : i < p + 1) : opX X P p 210 i = X 210 i := by
  unfold opX
  split
  · rw [va_up_self, pk_un (by omega)]
  · rfl
theorem opX_p {X : mX} {p : Nat} (h : p + 1 < P) : opX X P p 210 (p + 1) = mi1 := by
  unfold opX
  rw [if_pos h, va_up_self, pk_us]
set_option maxHeartbeats 4000000 in
theorem open_286 {X : mX} {p : Nat} {v2 v3 v5 : Int32} (hP : P ≤ 8) (hp : p < P) : aw ET G (d + 2) 236 286 [some (.ref 199), some (.int (nI P)), some (.int v2), some (.int v3), some (.int (nI p)), some (.int v5)] [] 231 sl (mem X Y) Q = aw ET G (d + 2) 236 47 [some (.ref 199), some (.int (nI P)), some (.int v2), some (.int v3), some (.int (nI (p + 1))), some (.int v5)] [] 231 sl (mem (opX X P p) Y) Q := by
  unfold opX
  by_cases c : p + 1 < P
  · simp (disch := omega) [w236_286, w236_289, w236_291, w236_292, w236_295, x236_296, w236_299, w236_301, w236_302, w236_303, rt236, aw_st, ai_cls, ai_len, ai_p, ai_sw, ai_m, ai_c, ai_at, ai_isI, ai_isJ, ai_isA, ai_ld, ai_1i, ai_2i, ai_2l, ai_cn, ai_j, ai_set, ai_set2, ai_nl, ai_rs, ai_sm, Value.category, hk0, hk1, lits, litb, litm, litm2, List.getElem?_cons_zero, List.getElem?_cons_succ, or_n0, bit_r, fi0, fi1, fi2, fi3, nI_toInt, nI_add, pk_mul, nI_leI, nI_ltI, nI_eq, pk_sub, ib_nI, nI_clamp, va_up_self, va_up_ne, va_up_up, va_up_comm, pk_us, pk_un, upd_up, updL_up, pk_uLs, pk_uLn, b01_1, b01_0, b01_1s, b01_0s, or_b, mm200, mu200, mm201, mu201, mm202, mu202, mm203, mu203, mm204, mu204, mm205, mu205, mm206, mu206, mm207, mu207, mm208, mu208, mm209, mu209, mm210, mu210, mm211, mu211, mm212, mu212, mm213, mu213, mm214, mu214, mm215, mu215, mm216, mu216, mm217, mu217, mm218, mu218, mm219, mu219, mm220, mu220, mm221, mu221, mm222, mu222, mm223, mu223, mm224, mu224, mm225, mu225, mm226, mu226, mm227, mu227, mm228, mu228, mm229, mu229, mm230, mu230, c, show ¬ P ≤ p + 1 by omega]
  · simp (disch := omega) [w236_286, w236_289, w236_291, w236_292, w236_295, x236_296, w236_299, w236_301, w236_302, w236_303, rt236, aw_st, ai_cls, ai_len, ai_p, ai_sw, ai_m, ai_c, ai_at, ai_isI, ai_isJ, ai_isA, ai_ld, ai_1i, ai_2i, ai_2l, ai_cn, ai_j, ai_set, ai_set2, ai_nl, ai_rs, ai_sm, Value.category, hk0, hk1, lits, litb, litm, litm2, List.getElem?_cons_zero, List.getElem?_cons_succ, or_n0, bit_r, fi0, fi1, fi2, fi3, nI_toInt, nI_add, pk_mul, nI_leI, nI_ltI, nI_eq, pk_sub, ib_nI, nI_clamp, va_up_self, va_up_ne, va_up_up, va_up_comm, pk_us, pk_un, upd_up, updL_up, pk_uLs, pk_uLn, b01_1, b01_0, b01_1s, b01_0s, or_b, mm200, mu200, mm201, mu201, mm202, mu202, mm203, mu203, mm204, mu204, mm205, mu205, mm206, mu206, mm207, mu207, mm208, mu208, mm209, mu209, mm210, mu210, mm211, mu211, mm212, mu212, mm213, mu213, mm214, mu214, mm215, mu215, mm216, mu216, mm217, mu217, mm218, mu218, mm219, mu219, mm220, mu220, mm221, mu221, mm222, mu222, mm223, mu223, mm224, mu224, mm225, mu225, mm226, mu226, mm227, mu227, mm228, mu228, mm229, mu229, mm230, mu230, c, show P ≤ p + 1 by omega]
set_option maxHeartbeats 8000000 in
theorem level_mated {p : Nat} {T : Int32 → (Nat → Int32) → Zh → Zh} {X : mX} {pr : Nat → Int32} {met : Int32} {z : Zh} {v5 : Option Value} (hP : P ≤ 8) (hp : p < P) (ih : LV G d sl Y P S l k (p + 1) T) (hL : LSb (X 201) l) (hk : KS (X 201) k P S) (h : HR (X 210) (X 211) pr P p) (hm : ¬ X 211 p = mi1) (h10 : X 210 p = mi1) (hz : ZR X z P) (hQ : ∀ X' v5, FH X X' p → ZR X' (T met pr z) P → aw ET G (d + 2) 236 47 [some (.ref 199), some (.int (nI P)), some (.int (T met pr z).2), some (.int met), some (.int (lvlI p)), v5] [] 231 sl (mem X' Y) Q) : aw ET G (d + 2) 236 47 [some (.ref 199), some (.int (nI P)), some (.int z.2), some (.int met), some (.int (nI p)), v5] [] 231 sl (mem X Y) Q := by
  obtain ⟨a, ha, ea⟩ : ∃ a, a < 8 ∧ X 211 p = nI a := by
    rcases h p hp with ⟨a, b, c⟩ | ⟨b, h1, h2, h3, h4, h5⟩ | ⟨a, h1, h2, h3, h4, h5, h6⟩
    · exact absurd a hm
    · omega
    · exact ⟨a, by omega, h3⟩
  have hgo : aw ET G (d + 2) 236 47 [some (.ref 199), some (.int (nI P)), some (.int z.2), some (.int met), some (.int (nI (p + 1))), some (.int (nI 1))] [] 231 sl (mem (opX (va_up X 210 (upd (X 210) p (nI 17))) P p) Y) Q := by
    refine ih Q _ pr met z _ ?_ ?_ ?_ (fun c => opX_p c) ?_ (fun X' w5 f zz => ?_)
    · rw [opX_at (by omega), va_up_ne _ _ (by omega)]; exact hL
    · rw [opX_at (by omega), va_up_ne _ _ (by omega)]; exact hk
    · have e211 : opX (va_up X 210 (upd (X 210) p (nI 17))) P p 211 = X 211 := by rw [opX_at (by omega), va_up_ne _ _ (by omega)]
      rw [e211]
      exact HR_cg (HR_17 h hm) (fun i hi => by rw [opX_lo hi, va_up_self])
    · exact ZR_cg hz (by rw [opX_at (by omega), va_up_ne _ _ (by omega)])
    · have x10 : X' 210 p = nI 17 := by rw [f.2 p (by omega), opX_lo (by omega), va_up_self, pk_us]
      have ff : FH X X' p := ⟨fun j a b => by rw [f.1 j a b, opX_at a, va_up_ne _ _ a], fun i hi => by rw [f.2 i (by omega), opX_lo (by omega), va_up_self, pk_un (by omega)]⟩
      have := hQ X' (some (.int (nI 0))) ff zz
      rw [lvl_s, w236_47]
      have n17 : ¬ nI 17 = mi1 := by decide
      simp (disch := omega) [w236_49, w236_52, w236_54, w236_55, w236_132, x236_133, w236_136, w236_138, w236_139, w236_140, w236_143, w236_144, w236_147, w236_148, w236_150, w236_152, w236_194, x236_195, w236_198, w236_200, w236_201, w236_203, w236_206, w236_209, rt236, aw_st, ai_cls, ai_len, ai_p, ai_sw, ai_m, ai_c, ai_at, ai_isI, ai_isJ, ai_isA, ai_ld, ai_1i, ai_2i, ai_2l, ai_cn, ai_j, ai_set, ai_set2, ai_nl, ai_rs, ai_sm, Value.category, hk0, hk1, lits, litb, litm, litm2, List.getElem?_cons_zero, List.getElem?_cons_succ, or_n0, bit_r, fi0, fi1, fi2, fi3, nI_toInt, nI_add, pk_mul, nI_leI, nI_ltI, nI_eq, pk_sub, ib_nI, nI_clamp, va_up_self, va_up_ne, va_up_up, va_up_comm, pk_us, pk_un, upd_up, updL_up, pk_uLs, pk_uLn, b01_1, b01_0, b01_1s, b01_0s, or_b, mm200, mu200, mm201, mu201, mm202, mu202, mm203, mu203, mm204, mu204, mm205, mu205, mm206, mu206, mm207, mu207, mm208, mu208, mm209, mu209, mm210, mu210, mm211, mu211, mm212, mu212, mm213, mu213, mm214, mu214, mm215, mu215, mm216, mu216, mm217, mu217, mm218, mu218, mm219, mu219, mm220, mu220, mm221, mu221, mm222, mu222, mm223, mu223, mm224, mu224, mm225, mu225, mm226, mu226, mm227, mu227, mm228, mu228, mm229, mu229, mm230, mu230, x10, n17, lvl_dec, show ¬ p = P by omega]
      exact this
  rw [w236_47]
  have na : ¬ nI a < nI 0 := by rw [nI_ltI (by omega) (by omega)]; omega
  unfold opX at hgo
  by_cases c : p + 1 < P
  · rw [if_pos c] at hgo
    simp (disch := omega) [w236_49, w236_52, w236_54, w236_55, w236_132, x236_133, w236_136, w236_138, w236_139, w236_140, w236_143, w236_144, w236_147, w236_148, w236_150, w236_152, w236_155, x236_156, w236_159, w236_161, w236_162, w236_165, x236_166, w236_169, w236_171, w236_173, w236_174, w236_177, w236_179, w236_180, w236_183, x236_184, w236_187, w236_189, w236_190, w236_191, rt236, aw_st, ai_cls, ai_len, ai_p, ai_sw, ai_m, ai_c, ai_at, ai_isI, ai_isJ, ai_isA, ai_ld, ai_1i, ai_2i, ai_2l, ai_cn, ai_j, ai_set, ai_set2, ai_nl, ai_rs, ai_sm, Value.category, hk0, hk1, lits, litb, litm, litm2, List.getElem?_cons_zero, List.getElem?_cons_succ, or_n0, bit_r, fi0, fi1, fi2, fi3, nI_toInt, nI_add, pk_mul, nI_leI, nI_ltI, nI_eq, pk_sub, ib_nI, nI_clamp, va_up_self, va_up_ne, va_up_up, va_up_comm, pk_us, pk_un, upd_up, updL_up, pk_uLs, pk_uLn, b01_1, b01_0, b01_1s, b01_0s, or_b, mm200, mu200, mm201, mu201, mm202, mu202, mm203, mu203, mm204, mu204, mm205, mu205, mm206, mu206, mm207, mu207, mm208, mu208, mm209, mu209, mm210, mu210, mm211, mu211, mm212, mu212, mm213, mu213, mm214, mu214, mm215, mu215, mm216, mu216, mm217, mu217, mm218, mu218, mm219, mu219, mm220, mu220, mm221, mu221, mm222, mu222, mm223, mu223, mm224, mu224, mm225, mu225, mm226, mu226, mm227, mu227, mm228, mu228, mm229, mu229, mm230, mu230, h10, ea, na, c, show ¬ p = P by omega, show ¬ P ≤ p + 1 by omega]
    simpa [va_up_self, va_up_up] using hgo
  · rw [if_neg c] at hgo
    simp (disch := omega) [w236_49, w236_52, w236_54, w236_55, w236_132, x236_133, w236_136, w236_138, w236_139, w236_140, w236_143, w236_144, w236_147, w236_148, w236_150, w236_152, w236_155, x236_156, w236_159, w236_161, w236_162, w236_165, x236_166, w236_169, w236_171, w236_173, w236_174, w236_177, w236_179, w236_180, w236_183, x236_184, w236_187, w236_189, w236_190, w236_191, rt236, aw_st, ai_cls, ai_len, ai_p, ai_sw, ai_m, ai_c, ai_at, ai_isI, ai_isJ, ai_isA, ai_ld, ai_1i, ai_2i, ai_2l, ai_cn, ai_j, ai_set, ai_set2, ai_nl, ai_rs, ai_sm, Value.category, hk0, hk1, lits, litb, litm, litm2, List.getElem?_cons_zero, List.getElem?_cons_succ, or_n0, bit_r, fi0, fi1, fi2, fi3, nI_toInt, nI_add, pk_mul, nI_leI, nI_ltI, nI_eq, pk_sub, ib_nI, nI_clamp, va_up_self, va_up_ne, va_up_up, va_up_comm, pk_us, pk_un, upd_up, updL_up, pk_uLs, pk_uLn, b01_1, b01_0, b01_1s, b01_0s, or_b, mm200, mu200, mm201, mu201, mm202, mu202, mm203, mu203, mm204, mu204, mm205, mu205, mm206, mu206, mm207, mu207, mm208, mu208, mm209, mu209, mm210, mu210, mm211, mu211, mm212, mu212, mm213, mu213, mm214, mu214, mm215, mu215, mm216, mu216, mm217, mu217, mm218, mu218, mm219, mu219, mm220, mu220, mm221, mu221, mm222, mu222, mm223, mu223, mm224, mu224, mm225, mu225, mm226, mu226, mm227, mu227, mm228, mu228, mm229, mu229, mm230, mu230, h10, ea, na, c, show ¬ p = P by omega, show P ≤ p + 1 by omega]
    exact hgo
end RHN
