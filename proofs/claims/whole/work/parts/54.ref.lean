/-! THE REFERENCE, V: acts -/
section RFE
variable {G : ai_G} {d n sl : Nat} {Y : mY} {Q : List Value → Nat → Nat → ai_M → Prop} {l k : Nat → Nat → Int32} {P S m : Nat} {ls : Nat → Nat → Nat → Int32} {X : mX}
/-- the acts that can be undone: m of them, what was so ahead of each -/
def US (u : Nat → Int32) (m : Nat) (ls : Nat → Nat → Nat → Int32) : Prop := m ≤ 8 ∧ ∀ c, c < m → LSx (fun i => u (125 * c + (i - 132))) (ls c)
def pushN (m : Nat) : Nat := if m = 8 then 8 else m + 1
def pushL (m : Nat) (ls : Nat → Nat → Nat → Int32) (l : Nat → Nat → Int32) : Nat → Nat → Nat → Int32 := fun c => if m = 8 then (if c < 7 then ls (c + 1) else l) else if c = m then l else ls c
theorem shift_step (f : Nat → Int32) (i r : Nat) : va_cpy (vf_upd f i (f (i + 125))) (vf_upd f i (f (i + 125))) (i + 1 + 125) (i + 1) r = va_cpy f f (i + 125) i (r + 1) := by
  funext j
  simp only [va_cpy, vf_upd]
  by_cases h1 : i + 1 ≤ j ∧ j < i + 1 + r
  · rw [if_pos h1, if_neg (by omega), if_pos (by omega)]
    exact congrArg f (by omega)
  · rw [if_neg h1]
    by_cases h2 : j = i
    · subst h2; rw [if_pos rfl, if_pos (by omega)]; exact congrArg f (by omega)
    · rw [if_neg h2, if_neg (by omega)]
set_option maxHeartbeats 4000000 in
theorem keep_shift : ∀ (r i : Nat) (X : mX), i + r = 875 → aw ET G d 220 11 [some (.ref 199), some (.int (nI i))] [] 231 sl (mem X Y) Q = aw ET G d 220 39 [some (.ref 199), some (.int (nI 875))] [] 231 sl (mem (va_up X 208 (va_cpy (X 208) (X 208) (i + 125) i r)) Y) Q := by
  intro r
  induction r with
  | zero =>
    intro i X hi
    have : i = 875 := by omega
    subst this
    have e : va_up X 208 (va_cpy (X 208) (X 208) (875 + 125) 875 0) = X := by rw [cpy_0]; funext j; simp only [va_up]; split <;> simp_all
    rw [e]
    simp (disch := omega) [w220_11, w220_12, w220_15, aw_st, ai_cls, ai_len, ai_p, ai_sw, ai_m, ai_c, ai_at, ai_isI, ai_isJ, ai_isA, ai_ld, ai_1i, ai_2i, ai_2l, ai_cn, ai_j, ai_set, ai_set2, ai_nl, ai_rs, ai_sm, Value.category, hk0, hk1, lits, litb, litm, litm2, or_n0, bit_r, fi0, fi1, fi2, fi3, nI_add, pk_mul, nI_leI, nI_ltI, nI_eq, pk_sub, ib_nI, nI_clamp, va_up_self, va_up_ne, va_up_up, va_up_comm, pk_us, pk_un, upd_up, updL_up, pk_uLs, pk_uLn, b01_1, b01_0, b01_1s, b01_0s, or_b, mm200, mu200, mm201, mu201, mm202, mu202, mm203, mu203, mm204, mu204, mm205, mu205, mm206, mu206, mm207, mu207, mm208, mu208, mm209, mu209, mm210, mu210, mm211, mu211, mm212, mu212, mm213, mu213, mm214, mu214, mm215, mu215, mm216, mu216, mm217, mu217, mm218, mu218, mm219, mu219, mm220, mu220, mm221, mu221, mm222, mu222, mm223, mu223, mm224, mu224, mm225, mu225, mm226, mu226, mm227, mu227, mm228, mu228, mm229, mu229, mm230, mu230]
  | succ r ih =>
    intro i X hi
    rw [w220_11]
    simp (disch := omega) [w220_12, w220_15, w220_18, x220_19, w220_22, w220_23, x220_24, w220_27, w220_28, w220_30, w220_31, w220_32, w220_33, w220_36, aw_st, ai_cls, ai_len, ai_p, ai_sw, ai_m, ai_c, ai_at, ai_isI, ai_isJ, ai_isA, ai_ld, ai_1i, ai_2i, ai_2l, ai_cn, ai_j, ai_set, ai_set2, ai_nl, ai_rs, ai_sm, Value.category, hk0, hk1, lits, litb, litm, litm2, or_n0, bit_r, fi0, fi1, fi2, fi3, nI_add, pk_mul, nI_leI, nI_ltI, nI_eq, pk_sub, ib_nI, nI_clamp, va_up_self, va_up_ne, va_up_up, va_up_comm, pk_us, pk_un, upd_up, updL_up, pk_uLs, pk_uLn, b01_1, b01_0, b01_1s, b01_0s, or_b, mm200, mu200, mm201, mu201, mm202, mu202, mm203, mu203, mm204, mu204, mm205, mu205, mm206, mu206, mm207, mu207, mm208, mu208, mm209, mu209, mm210, mu210, mm211, mu211, mm212, mu212, mm213, mu213, mm214, mu214, mm215, mu215, mm216, mu216, mm217, mu217, mm218, mu218, mm219, mu219, mm220, mu220, mm221, mu221, mm222, mu222, mm223, mu223, mm224, mu224, mm225, mu225, mm226, mu226, mm227, mu227, mm228, mu228, mm229, mu229, mm230, mu230, show ¬ 875 ≤ i by omega]
    rw [ih (i + 1) _ (by omega), ← shift_step]
    simp (disch := omega) [va_up_self, va_up_up, va_up_ne, upd_vf]
set_option maxHeartbeats 4000000 in
theorem keep_copy {m : Nat} (hm : m ≤ 7) : ∀ (r i : Nat) (X : mX), X 199 28 = nI m → i + r = 125 → aw ET G d 220 47 [some (.ref 199), some (.int (nI i))] [] 231 sl (mem X Y) Q = aw ET G d 220 83 [some (.ref 199), some (.int (nI 125))] [] 231 sl (mem (va_up X 208 (va_cpy (X 201) (X 208) (132 + i) (125 * m + i) r)) Y) Q := by
  intro r
  induction r with
  | zero =>
    intro i X hx hi
    have : i = 125 := by omega
    subst this
    have e : va_up X 208 (va_cpy (X 201) (X 208) (132 + 125) (125 * m + 125) 0) = X := by rw [cpy_0]; funext j; simp only [va_up]; split <;> simp_all
    rw [e]
    simp (disch := omega) [w220_47, w220_48, w220_50, aw_st, ai_cls, ai_len, ai_p, ai_sw, ai_m, ai_c, ai_at, ai_isI, ai_isJ, ai_isA, ai_ld, ai_1i, ai_2i, ai_2l, ai_cn, ai_j, ai_set, ai_set2, ai_nl, ai_rs, ai_sm, Value.category, hk0, hk1, lits, litb, litm, litm2, or_n0, bit_r, fi0, fi1, fi2, fi3, nI_add, pk_mul, nI_leI, nI_ltI, nI_eq, pk_sub, ib_nI, nI_clamp, va_up_self, va_up_ne, va_up_up, va_up_comm, pk_us, pk_un, upd_up, updL_up, pk_uLs, pk_uLn, b01_1, b01_0, b01_1s, b01_0s, or_b, mm200, mu200, mm201, mu201, mm202, mu202, mm203, mu203, mm204, mu204, mm205, mu205, mm206, mu206, mm207, mu207, mm208, mu208, mm209, mu209, mm210, mu210, mm211, mu211, mm212, mu212, mm213, mu213, mm214, mu214, mm215, mu215, mm216, mu216, mm217, mu217, mm218, mu218, mm219, mu219, mm220, mu220, mm221, mu221, mm222, mu222, mm223, mu223, mm224, mu224, mm225, mu225, mm226, mu226, mm227, mu227, mm228, mu228, mm229, mu229, mm230, mu230]
  | succ r ih =>
    intro i X hx hi
    rw [w220_47]
    simp (disch := omega) [w220_48, w220_50, w220_53, x220_54, w220_57, w220_59, x220_60, w220_63, w220_64, w220_65, w220_66, x220_67, w220_70, w220_73, w220_74, w220_75, w220_76, w220_77, w220_80, aw_st, ai_cls, ai_len, ai_p, ai_sw, ai_m, ai_c, ai_at, ai_isI, ai_isJ, ai_isA, ai_ld, ai_1i, ai_2i, ai_2l, ai_cn, ai_j, ai_set, ai_set2, ai_nl, ai_rs, ai_sm, Value.category, hk0, hk1, lits, litb, litm, litm2, or_n0, bit_r, fi0, fi1, fi2, fi3, nI_add, pk_mul, nI_leI, nI_ltI, nI_eq, pk_sub, ib_nI, nI_clamp, va_up_self, va_up_ne, va_up_up, va_up_comm, pk_us, pk_un, upd_up, updL_up, pk_uLs, pk_uLn, b01_1, b01_0, b01_1s, b01_0s, or_b, mm200, mu200, mm201, mu201, mm202, mu202, mm203, mu203, mm204, mu204, mm205, mu205, mm206, mu206, mm207, mu207, mm208, mu208, mm209, mu209, mm210, mu210, mm211, mu211, mm212, mu212, mm213, mu213, mm214, mu214, mm215, mu215, mm216, mu216, mm217, mu217, mm218, mu218, mm219, mu219, mm220, mu220, mm221, mu221, mm222, mu222, mm223, mu223, mm224, mu224, mm225, mu225, mm226, mu226, mm227, mu227, mm228, mu228, mm229, mu229, mm230, mu230, hx, show ¬ 125 ≤ i by omega]
    rw [ih (i + 1) _ (by simp [va_up, hx]) (by omega), ← cpy_step]
    simp (disch := omega) [va_up_self, va_up_up, va_up_ne, upd_vf, show 132 + (i + 1) = 132 + i + 1 from rfl, show 125 * m + (i + 1) = 125 * m + i + 1 from rfl]
theorem US_push {u s : Nat → Int32} (hU : US u m ls) (h8 : m < 8) (h : LSx s l) : US (va_cpy s u 132 (125 * m) 125) (pushN m) (pushL m ls l) := by
  have e : pushN m = m + 1 := if_neg (by omega)
  refine ⟨by omega, fun c hc => ?_⟩
  unfold pushL
  rw [if_neg (by omega)]
  by_cases hcm : c = m
  · subst hcm
    rw [if_pos rfl]
    refine h.kept (fun i h1 h2 => ?_)
    rw [pk_cpy_in (by omega) (by omega)]
    exact congrArg s (by omega)
  · rw [if_neg hcm]
    refine (hU.2 c (by omega)).kept (fun i h1 h2 => ?_)
    rw [pk_cpy_out (by omega)]
theorem US_full {u s : Nat → Int32} (hU : US u 8 ls) (h : LSx s l) : US (va_cpy s (va_cpy u u 125 0 875) 132 875 125) 8 (pushL 8 ls l) := by
  refine ⟨by omega, fun c hc => ?_⟩
  unfold pushL
  rw [if_pos rfl]
  by_cases hcm : c < 7
  · rw [if_pos hcm]
    refine (hU.2 (c + 1) (by omega)).kept (fun i h1 h2 => ?_)
    rw [pk_cpy_out (by omega), pk_cpy_in (by omega) (by omega)]
    exact congrArg u (by omega)
  · rw [if_neg hcm]
    refine h.kept (fun i h1 h2 => ?_)
    rw [pk_cpy_in (by omega) (by omega)]
    exact congrArg s (by omega)
set_option maxHeartbeats 4000000 in
theorem keep_wp (hU : US (X 208) m ls) (hm : X 199 28 = nI m) (h : LSx (X 201) l) (hQ : ∀ u', US u' (pushN m) (pushL m ls l) → Q [] 231 sl (mem (va_up (va_up X 199 (upd (X 199) 28 (nI (pushN m)))) 208 u') Y)) : aw ET G d 220 0 [some (.ref 199), none] [] 231 sl (mem X Y) Q := by
  by_cases h8 : m = 8
  · subst h8
    simp (disch := omega) [w220_0, x220_1, w220_4, w220_6, w220_9, w220_10, aw_st, ai_cls, ai_len, ai_p, ai_sw, ai_m, ai_c, ai_at, ai_isI, ai_isJ, ai_isA, ai_ld, ai_1i, ai_2i, ai_2l, ai_cn, ai_j, ai_set, ai_set2, ai_nl, ai_rs, ai_sm, Value.category, hk0, hk1, lits, litb, litm, litm2, or_n0, bit_r, fi0, fi1, fi2, fi3, nI_add, pk_mul, nI_leI, nI_ltI, nI_eq, pk_sub, ib_nI, nI_clamp, va_up_self, va_up_ne, va_up_up, va_up_comm, pk_us, pk_un, upd_up, updL_up, pk_uLs, pk_uLn, b01_1, b01_0, b01_1s, b01_0s, or_b, mm200, mu200, mm201, mu201, mm202, mu202, mm203, mu203, mm204, mu204, mm205, mu205, mm206, mu206, mm207, mu207, mm208, mu208, mm209, mu209, mm210, mu210, mm211, mu211, mm212, mu212, mm213, mu213, mm214, mu214, mm215, mu215, mm216, mu216, mm217, mu217, mm218, mu218, mm219, mu219, mm220, mu220, mm221, mu221, mm222, mu222, mm223, mu223, mm224, mu224, mm225, mu225, mm226, mu226, mm227, mu227, mm228, mu228, mm229, mu229, mm230, mu230, hm]
    rw [keep_shift 875 0 X rfl]
    simp (disch := omega) [w220_39, w220_40, x220_42, w220_45, w220_46, aw_st, ai_cls, ai_len, ai_p, ai_sw, ai_m, ai_c, ai_at, ai_isI, ai_isJ, ai_isA, ai_ld, ai_1i, ai_2i, ai_2l, ai_cn, ai_j, ai_set, ai_set2, ai_nl, ai_rs, ai_sm, Value.category, hk0, hk1, lits, litb, litm, litm2, or_n0, bit_r, fi0, fi1, fi2, fi3, nI_add, pk_mul, nI_leI, nI_ltI, nI_eq, pk_sub, ib_nI, nI_clamp, va_up_self, va_up_ne, va_up_up, va_up_comm, pk_us, pk_un, upd_up, updL_up, pk_uLs, pk_uLn, b01_1, b01_0, b01_1s, b01_0s, or_b, mm200, mu200, mm201, mu201, mm202, mu202, mm203, mu203, mm204, mu204, mm205, mu205, mm206, mu206, mm207, mu207, mm208, mu208, mm209, mu209, mm210, mu210, mm211, mu211, mm212, mu212, mm213, mu213, mm214, mu214, mm215, mu215, mm216, mu216, mm217, mu217, mm218, mu218, mm219, mu219, mm220, mu220, mm221, mu221, mm222, mu222, mm223, mu223, mm224, mu224, mm225, mu225, mm226, mu226, mm227, mu227, mm228, mu228, mm229, mu229, mm230, mu230, hm]
    rw [keep_copy (m := 7) (by omega) 125 0 _ (by simp [va_up, upd]) rfl]
    simp (disch := omega) [w220_83, w220_84, x220_85, w220_88, w220_89, x220_90, w220_93, rt220, aw_st, ai_cls, ai_len, ai_p, ai_sw, ai_m, ai_c, ai_at, ai_isI, ai_isJ, ai_isA, ai_ld, ai_1i, ai_2i, ai_2l, ai_cn, ai_j, ai_set, ai_set2, ai_nl, ai_rs, ai_sm, Value.category, hk0, hk1, lits, litb, litm, litm2, or_n0, bit_r, fi0, fi1, fi2, fi3, nI_add, pk_mul, nI_leI, nI_ltI, nI_eq, pk_sub, ib_nI, nI_clamp, va_up_self, va_up_ne, va_up_up, va_up_comm, pk_us, pk_un, upd_up, updL_up, pk_uLs, pk_uLn, b01_1, b01_0, b01_1s, b01_0s, or_b, mm200, mu200, mm201, mu201, mm202, mu202, mm203, mu203, mm204, mu204, mm205, mu205, mm206, mu206, mm207, mu207, mm208, mu208, mm209, mu209, mm210, mu210, mm211, mu211, mm212, mu212, mm213, mu213, mm214, mu214, mm215, mu215, mm216, mu216, mm217, mu217, mm218, mu218, mm219, mu219, mm220, mu220, mm221, mu221, mm222, mu222, mm223, mu223, mm224, mu224, mm225, mu225, mm226, mu226, mm227, mu227, mm228, mu228, mm229, mu229, mm230, mu230, hm]
    have := hQ _ (US_full hU h)
    simpa [pushN, upd_up, va_up_up] using this
  · have e : pushN m = m + 1 := if_neg h8
    have hm8 := hU.1
    simp (disch := omega) [w220_0, x220_1, w220_4, w220_6, w220_45, w220_46, aw_st, ai_cls, ai_len, ai_p, ai_sw, ai_m, ai_c, ai_at, ai_isI, ai_isJ, ai_isA, ai_ld, ai_1i, ai_2i, ai_2l, ai_cn, ai_j, ai_set, ai_set2, ai_nl, ai_rs, ai_sm, Value.category, hk0, hk1, lits, litb, litm, litm2, or_n0, bit_r, fi0, fi1, fi2, fi3, nI_add, pk_mul, nI_leI, nI_ltI, nI_eq, pk_sub, ib_nI, nI_clamp, va_up_self, va_up_ne, va_up_up, va_up_comm, pk_us, pk_un, upd_up, updL_up, pk_uLs, pk_uLn, b01_1, b01_0, b01_1s, b01_0s, or_b, mm200, mu200, mm201, mu201, mm202, mu202, mm203, mu203, mm204, mu204, mm205, mu205, mm206, mu206, mm207, mu207, mm208, mu208, mm209, mu209, mm210, mu210, mm211, mu211, mm212, mu212, mm213, mu213, mm214, mu214, mm215, mu215, mm216, mu216, mm217, mu217, mm218, mu218, mm219, mu219, mm220, mu220, mm221, mu221, mm222, mu222, mm223, mu223, mm224, mu224, mm225, mu225, mm226, mu226, mm227, mu227, mm228, mu228, mm229, mu229, mm230, mu230, hm, h8]
    rw [keep_copy (m := m) (by omega) 125 0 _ hm rfl]
    simp (disch := omega) [w220_83, w220_84, x220_85, w220_88, w220_89, x220_90, w220_93, rt220, aw_st, ai_cls, ai_len, ai_p, ai_sw, ai_m, ai_c, ai_at, ai_isI, ai_isJ, ai_isA, ai_ld, ai_1i, ai_2i, ai_2l, ai_cn, ai_j, ai_set, ai_set2, ai_nl, ai_rs, ai_sm, Value.category, hk0, hk1, lits, litb, litm, litm2, or_n0, bit_r, fi0, fi1, fi2, fi3, nI_add, pk_mul, nI_leI, nI_ltI, nI_eq, pk_sub, ib_nI, nI_clamp, va_up_self, va_up_ne, va_up_up, va_up_comm, pk_us, pk_un, upd_up, updL_up, pk_uLs, pk_uLn, b01_1, b01_0, b01_1s, b01_0s, or_b, mm200, mu200, mm201, mu201, mm202, mu202, mm203, mu203, mm204, mu204, mm205, mu205, mm206, mu206, mm207, mu207, mm208, mu208, mm209, mu209, mm210, mu210, mm211, mu211, mm212, mu212, mm213, mu213, mm214, mu214, mm215, mu215, mm216, mu216, mm217, mu217, mm218, mu218, mm219, mu219, mm220, mu220, mm221, mu221, mm222, mu222, mm223, mu223, mm224, mu224, mm225, mu225, mm226, mu226, mm227, mu227, mm228, mu228, mm229, mu229, mm230, mu230, hm]
    have := hQ _ (US_push hU (by omega) h)
    simpa [e] using this
/-- a number as a place -/
def iN (x : Int32) : Nat := x.toNatClampNeg
theorem iN_nI {p : Nat} (h : p < 2 ^ 31) : iN (nI p) = p := nI_clamp h
def tz (X : mX) : mX := va_up X 199 (upd (X 199) 0 0)
def owesR (P : Nat) (l : Nat → Nat → Int32) (x y : Int32) : Int32 := if (pI P x && pI P y) = true then l 5 (iN x * 8 + iN y) else mi1
set_option maxHeartbeats 4000000 in
theorem owes_eq (h : LSb (X 201) l) (hk : KS (X 201) k P S) {x y : Int32} : aw ET G (d + 2) 205 0 [some (.ref 199), some (.int x), some (.int y)] [] 231 sl (mem X Y) Q = Q [.int (owesR P l x y)] 231 sl (mem (tz X) Y) := by
  have hP := hk.1
  have k1 := hk.2.2.2.2.1
  have hp : ∀ (x : Int32) (Q : List Value → Nat → Nat → ai_M → Prop), aw ET G (d + 1) 201 0 [some (.ref 199), some (.int x)] [] 231 sl (mem (va_up X 199 (upd (X 199) 0 (nI 0))) Y) Q = Q [.int (b01 (pI P x = true))] 231 sl (mem (va_up X 199 (upd (X 199) 0 (nI 0))) Y) := fun x Q => isPerson_eq (X := (va_up X 199 (upd (X 199) 0 (nI 0)))) hP k1
  unfold tz owesR
  cases hx : pI P x
  · simp (disch := omega) [w205_0, w205_1, x205_2, w205_5, w205_6, x205_7, w205_10, w205_13, w205_14, x205_15, w205_18, w205_21, x205_22, w205_25, w205_28, w205_30, w205_31, w205_32, w205_33, w205_34, w205_35, w205_36, w205_39, w205_40, rt205, aw_st, ai_cls, ai_len, ai_p, ai_sw, ai_m, ai_c, ai_at, ai_isI, ai_isJ, ai_isA, ai_ld, ai_1i, ai_2i, ai_2l, ai_cn, ai_j, ai_set, ai_set2, ai_nl, ai_rs, ai_sm, Value.category, hk0, hk1, lits, litb, litm, litm2, or_n0, bit_r, fi0, fi1, fi2, fi3, nI_add, pk_mul, nI_leI, nI_ltI, nI_eq, pk_sub, ib_nI, nI_clamp, va_up_self, va_up_ne, va_up_up, va_up_comm, pk_us, pk_un, upd_up, updL_up, pk_uLs, pk_uLn, b01_1, b01_0, b01_1s, b01_0s, or_b, mm200, mu200, mm201, mu201, mm202, mu202, mm203, mu203, mm204, mu204, mm205, mu205, mm206, mu206, mm207, mu207, mm208, mu208, mm209, mu209, mm210, mu210, mm211, mu211, mm212, mu212, mm213, mu213, mm214, mu214, mm215, mu215, mm216, mu216, mm217, mu217, mm218, mu218, mm219, mu219, mm220, mu220, mm221, mu221, mm222, mu222, mm223, mu223, mm224, mu224, mm225, mu225, mm226, mu226, mm227, mu227, mm228, mu228, mm229, mu229, mm230, mu230, hp, hx]
  · cases hy : pI P y
    · simp (disch := omega) [w205_0, w205_1, x205_2, w205_5, w205_6, x205_7, w205_10, w205_13, w205_14, x205_15, w205_18, w205_21, x205_22, w205_25, w205_28, w205_30, w205_31, w205_32, w205_33, w205_34, w205_35, w205_36, w205_39, w205_40, rt205, aw_st, ai_cls, ai_len, ai_p, ai_sw, ai_m, ai_c, ai_at, ai_isI, ai_isJ, ai_isA, ai_ld, ai_1i, ai_2i, ai_2l, ai_cn, ai_j, ai_set, ai_set2, ai_nl, ai_rs, ai_sm, Value.category, hk0, hk1, lits, litb, litm, litm2, or_n0, bit_r, fi0, fi1, fi2, fi3, nI_add, pk_mul, nI_leI, nI_ltI, nI_eq, pk_sub, ib_nI, nI_clamp, va_up_self, va_up_ne, va_up_up, va_up_comm, pk_us, pk_un, upd_up, updL_up, pk_uLs, pk_uLn, b01_1, b01_0, b01_1s, b01_0s, or_b, mm200, mu200, mm201, mu201, mm202, mu202, mm203, mu203, mm204, mu204, mm205, mu205, mm206, mu206, mm207, mu207, mm208, mu208, mm209, mu209, mm210, mu210, mm211, mu211, mm212, mu212, mm213, mu213, mm214, mu214, mm215, mu215, mm216, mu216, mm217, mu217, mm218, mu218, mm219, mu219, mm220, mu220, mm221, mu221, mm222, mu222, mm223, mu223, mm224, mu224, mm225, mu225, mm226, mu226, mm227, mu227, mm228, mu228, mm229, mu229, mm230, mu230, hp, hx, hy]
    · obtain ⟨a, ha, rfl⟩ := (pI_nat (by omega)).mp hx
      obtain ⟨b, hb, rfl⟩ := (pI_nat (by omega)).mp hy
      simp (disch := omega) [w205_0, w205_1, x205_2, w205_5, w205_6, x205_7, w205_10, w205_13, w205_14, x205_15, w205_18, w205_21, x205_22, w205_25, w205_28, w205_30, w205_31, w205_32, w205_33, w205_34, w205_35, w205_36, w205_39, w205_40, rt205, aw_st, ai_cls, ai_len, ai_p, ai_sw, ai_m, ai_c, ai_at, ai_isI, ai_isJ, ai_isA, ai_ld, ai_1i, ai_2i, ai_2l, ai_cn, ai_j, ai_set, ai_set2, ai_nl, ai_rs, ai_sm, Value.category, hk0, hk1, lits, litb, litm, litm2, or_n0, bit_r, fi0, fi1, fi2, fi3, nI_add, pk_mul, nI_leI, nI_ltI, nI_eq, pk_sub, ib_nI, nI_clamp, va_up_self, va_up_ne, va_up_up, va_up_comm, pk_us, pk_un, upd_up, updL_up, pk_uLs, pk_uLn, b01_1, b01_0, b01_1s, b01_0s, or_b, mm200, mu200, mm201, mu201, mm202, mu202, mm203, mu203, mm204, mu204, mm205, mu205, mm206, mu206, mm207, mu207, mm208, mu208, mm209, mu209, mm210, mu210, mm211, mu211, mm212, mu212, mm213, mu213, mm214, mu214, mm215, mu215, mm216, mu216, mm217, mu217, mm218, mu218, mm219, mu219, mm220, mu220, mm221, mu221, mm222, mu222, mm223, mu223, mm224, mu224, mm225, mu225, mm226, mu226, mm227, mu227, mm228, mu228, mm229, mu229, mm230, mu230, hp, hx, hy, iN_nI, h.nt (show a < 8 by omega) (show b < 8 by omega)]
def okH (P : Nat) (x y n : Int32) : Bool := pI P x && (pI P y && inI 1 24 n)
theorem areHeard_eq (hP : P ≤ 8) (k1 : X 201 0 = nI P) {x y n : Int32} : aw ET G (d + 2) 217 0 [some (.ref 199), some (.int x), some (.int y), some (.int n)] [] 231 sl (mem X Y) Q = Q [.int (b01 (okH P x y n = true))] 231 sl (mem X Y) := by
  have hp : ∀ (x : Int32) (Q : List Value → Nat → Nat → ai_M → Prop), aw ET G (d + 1) 201 0 [some (.ref 199), some (.int x)] [] 231 sl (mem X Y) Q = Q [.int (b01 (pI P x = true))] 231 sl (mem X Y) := fun x Q => isPerson_eq (X := X) hP k1
  unfold okH
  cases hx : pI P x <;> cases hy : pI P y <;> cases hn : inI 1 24 n <;> (have hn' : inI (nI 1) (nI 24) n = _ := hn; simp (disch := omega) [w217_0, w217_1, x217_2, w217_5, w217_8, w217_9, x217_10, w217_13, w217_16, w217_17, w217_18, x217_20, w217_23, w217_26, w217_27, w217_30, w217_31, rt217, aw_st, ai_cls, ai_len, ai_p, ai_sw, ai_m, ai_c, ai_at, ai_isI, ai_isJ, ai_isA, ai_ld, ai_1i, ai_2i, ai_2l, ai_cn, ai_j, ai_set, ai_set2, ai_nl, ai_rs, ai_sm, Value.category, hk0, hk1, lits, litb, litm, litm2, or_n0, bit_r, fi0, fi1, fi2, fi3, nI_add, pk_mul, nI_leI, nI_ltI, nI_eq, pk_sub, ib_nI, nI_clamp, va_up_self, va_up_ne, va_up_up, va_up_comm, pk_us, pk_un, upd_up, updL_up, pk_uLs, pk_uLn, b01_1, b01_0, b01_1s, b01_0s, or_b, mm200, mu200, mm201, mu201, mm202, mu202, mm203, mu203, mm204, mu204, mm205, mu205, mm206, mu206, mm207, mu207, mm208, mu208, mm209, mu209, mm210, mu210, mm211, mu211, mm212, mu212, mm213, mu213, mm214, mu214, mm215, mu215, mm216, mu216, mm217, mu217, mm218, mu218, mm219, mu219, mm220, mu220, mm221, mu221, mm222, mu222, mm223, mu223, mm224, mu224, mm225, mu225, mm226, mu226, mm227, mu227, mm228, mu228, mm229, mu229, mm230, mu230, hp, hx, hy, hn', isIn_eq, b01])
theorem inI_nat {lo hi : Nat} (hl : lo < 2 ^ 31) (hh : hi < 2 ^ 31) {x : Int32} (h : inI (nI lo) (nI hi) x = true) : ∃ m, lo ≤ m ∧ m ≤ hi ∧ x = nI m := by
  unfold inI at h
  rw [decide_eq_true_eq] at h
  obtain ⟨h1, h2⟩ := h
  have h0 : ¬ x < 0 := by
    rw [Int32.not_lt]
    exact Int32.le_trans (nI_pos' hl) h1
  obtain ⟨j, hj, rfl⟩ := nI_of h0
  rw [nI_leI hl hj] at h1
  rw [nI_leI hj hh] at h2
  exact ⟨j, h1, h2, rfl⟩
theorem okH_nat (hP : P ≤ 8) {x y n : Int32} (h : okH P x y n = true) : ∃ a b m, a < P ∧ b < P ∧ 1 ≤ m ∧ m ≤ 24 ∧ x = nI a ∧ y = nI b ∧ n = nI m := by
  unfold okH at h
  simp only [Bool.and_eq_true] at h
  obtain ⟨h1, h2, h3⟩ := h
  obtain ⟨a, ha, rfl⟩ := (pI_nat (by omega)).mp h1
  obtain ⟨b, hb, rfl⟩ := (pI_nat (by omega)).mp h2
  obtain ⟨m, hm1, hm2, rfl⟩ := inI_nat (lo := 1) (hi := 24) (by omega) (by omega) h3
  exact ⟨a, b, m, ha, hb, hm1, hm2, rfl, rfl, rfl⟩
def whyR (P : Nat) (l k : Nat → Nat → Int32) (x y n : Int32) : Int32 := if okH P x y n = true then whyI l k (iN x) (iN y) n else mi1
set_option maxHeartbeats 4000000 in
theorem why_eq (h : LSb (X 201) l) (hk : KS (X 201) k P S) {x y n : Int32} : aw ET G (d + 3) 216 0 [some (.ref 199), some (.int x), some (.int y), some (.int n)] [] 231 sl (mem X Y) Q = Q [.int (whyR P l k x y n)] 231 sl (mem (tz X) Y) := by
  have hP := hk.1
  have k1 := hk.2.2.2.2.1
  have hp : ∀ (Q : List Value → Nat → Nat → ai_M → Prop), aw ET G (d + 2) 217 0 [some (.ref 199), some (.int x), some (.int y), some (.int n)] [] 231 sl (mem (va_up X 199 (upd (X 199) 0 (nI 0))) Y) Q = Q [.int (b01 (okH P x y n = true))] 231 sl (mem (va_up X 199 (upd (X 199) 0 (nI 0))) Y) := fun Q => areHeard_eq (X := (va_up X 199 (upd (X 199) 0 (nI 0)))) hP k1
  unfold tz whyR
  cases hx : okH P x y n
  · simp (disch := omega) [w216_0, w216_1, x216_2, w216_5, w216_6, w216_7, w216_8, x216_9, w216_12, w216_15, w216_16, w216_17, w216_18, x216_19, w216_22, w216_25, w216_26, rt216, aw_st, ai_cls, ai_len, ai_p, ai_sw, ai_m, ai_c, ai_at, ai_isI, ai_isJ, ai_isA, ai_ld, ai_1i, ai_2i, ai_2l, ai_cn, ai_j, ai_set, ai_set2, ai_nl, ai_rs, ai_sm, Value.category, hk0, hk1, lits, litb, litm, litm2, or_n0, bit_r, fi0, fi1, fi2, fi3, nI_add, pk_mul, nI_leI, nI_ltI, nI_eq, pk_sub, ib_nI, nI_clamp, va_up_self, va_up_ne, va_up_up, va_up_comm, pk_us, pk_un, upd_up, updL_up, pk_uLs, pk_uLn, b01_1, b01_0, b01_1s, b01_0s, or_b, mm200, mu200, mm201, mu201, mm202, mu202, mm203, mu203, mm204, mu204, mm205, mu205, mm206, mu206, mm207, mu207, mm208, mu208, mm209, mu209, mm210, mu210, mm211, mu211, mm212, mu212, mm213, mu213, mm214, mu214, mm215, mu215, mm216, mu216, mm217, mu217, mm218, mu218, mm219, mu219, mm220, mu220, mm221, mu221, mm222, mu222, mm223, mu223, mm224, mu224, mm225, mu225, mm226, mu226, mm227, mu227, mm228, mu228, mm229, mu229, mm230, mu230, hp, hx]
  · obtain ⟨a, b, m, ha, hb, m1, m2, rfl, rfl, rfl⟩ := okH_nat hP hx
    have hw : ∀ (Q : List Value → Nat → Nat → ai_M → Prop), aw ET G (d + 2) 218 0 [some (.ref 199), some (.int (nI a)), some (.int (nI b)), some (.int (nI m))] [] 231 sl (mem (va_up X 199 (upd (X 199) 0 (nI 0))) Y) Q = Q [.int (whyI l k a b (nI m))] 231 sl (mem (va_up X 199 (upd (X 199) 0 (nI 0))) Y) := fun Q => whyHear_eq (X := (va_up X 199 (upd (X 199) 0 (nI 0)))) h hk (by omega) (by omega)
    simp (disch := omega) [w216_0, w216_1, x216_2, w216_5, w216_6, w216_7, w216_8, x216_9, w216_12, w216_15, w216_16, w216_17, w216_18, x216_19, w216_22, w216_25, w216_26, rt216, aw_st, ai_cls, ai_len, ai_p, ai_sw, ai_m, ai_c, ai_at, ai_isI, ai_isJ, ai_isA, ai_ld, ai_1i, ai_2i, ai_2l, ai_cn, ai_j, ai_set, ai_set2, ai_nl, ai_rs, ai_sm, Value.category, hk0, hk1, lits, litb, litm, litm2, or_n0, bit_r, fi0, fi1, fi2, fi3, nI_add, pk_mul, nI_leI, nI_ltI, nI_eq, pk_sub, ib_nI, nI_clamp, va_up_self, va_up_ne, va_up_up, va_up_comm, pk_us, pk_un, upd_up, updL_up, pk_uLs, pk_uLn, b01_1, b01_0, b01_1s, b01_0s, or_b, mm200, mu200, mm201, mu201, mm202, mu202, mm203, mu203, mm204, mu204, mm205, mu205, mm206, mu206, mm207, mu207, mm208, mu208, mm209, mu209, mm210, mu210, mm211, mu211, mm212, mu212, mm213, mu213, mm214, mu214, mm215, mu215, mm216, mu216, mm217, mu217, mm218, mu218, mm219, mu219, mm220, mu220, mm221, mu221, mm222, mu222, mm223, mu223, mm224, mu224, mm225, mu225, mm226, mu226, mm227, mu227, mm228, mu228, mm229, mu229, mm230, mu230, hp, hx, hw, iN_nI]
end RFE
