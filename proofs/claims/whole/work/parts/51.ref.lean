/-! THE REFERENCE, II: hearing, telling, days (the family of rows on bits is pasted from kit/laws/BITS) -/
section RFB
variable {G : ai_G} {d n sl : Nat} {M : ai_M} {X : mX} {Y : mY} {Q : List Value → Nat → Nat → ai_M → Prop}
def bt (x : Int32) (i : Nat) : Bool := x.toBitVec.getLsbD i
theorem b_ext {x y : Int32} (h : ∀ i, i < 32 → bt x i = bt y i) : x = y := Int32.toBitVec_inj.mp (BitVec.eq_of_getLsbD_eq (fun i hi => h i hi))
theorem b_or (x y : Int32) (i : Nat) : bt (x ||| y) i = (bt x i || bt y i) := by unfold bt; rw [Int32.toBitVec_or, BitVec.getLsbD_or]
theorem b_and (x y : Int32) (i : Nat) : bt (x &&& y) i = (bt x i && bt y i) := by unfold bt; rw [Int32.toBitVec_and, BitVec.getLsbD_and]
theorem b_xor (x y : Int32) (i : Nat) : bt (x ^^^ y) i = (bt x i ^^ bt y i) := by unfold bt; rw [Int32.toBitVec_xor, BitVec.getLsbD_xor]
theorem b_big {x : Int32} {i : Nat} (h : 32 ≤ i) : bt x i = false := BitVec.getLsbD_of_ge _ _ h
theorem b_255 (i : Nat) : bt 255 i = decide (i < 8) := by
  rcases Nat.lt_or_ge i 32 with h | h
  · exact (by decide +kernel : ∀ i, i < 32 → bt 255 i = decide (i < 8)) i h
  · rw [b_big h, decide_eq_false (by omega)]
theorem b_65535 (i : Nat) : bt 65535 i = decide (i < 16) := by
  rcases Nat.lt_or_ge i 32 with h | h
  · exact (by decide +kernel : ∀ i, i < 32 → bt 65535 i = decide (i < 16)) i h
  · rw [b_big h, decide_eq_false (by omega)]
theorem b_m1 : ∀ i, i < 32 → bt (-1) i = true := by decide +kernel
theorem b_0 (i : Nat) : bt 0 i = false := BitVec.getLsbD_zero
theorem s_l : ∀ n, n < 32 → ((nI n &&& 31).toBitVec.smod 32).toNat = n := by decide +kernel
theorem s_u : ∀ n, n < 32 → (((nI n).toUInt32 &&& Int32.toUInt32 31).toBitVec % 32).toNat = n := by decide +kernel
theorem b_shl (n : Nat) (hn : n < 32) (x : Int32) {i : Nat} (hi : i < 32) : bt (x <<< (nI n &&& 31)) i = (decide (n ≤ i) && bt x (i - n)) := by
  unfold bt
  rw [Int32.toBitVec_shiftLeft]
  show (x.toBitVec <<< ((nI n &&& 31).toBitVec.smod 32).toNat).getLsbD i = _
  rw [s_l n hn, BitVec.getLsbD_shiftLeft]
  rcases Nat.lt_or_ge i n with h | h
  · simp [h, Nat.not_le.mpr h]
  · simp [hi, h, Nat.not_lt.mpr h]
theorem b_ushr (n : Nat) (hn : n < 32) (x : Int32) (i : Nat) : bt ((x.toUInt32 >>> ((nI n).toUInt32 &&& Int32.toUInt32 31)).toInt32) i = bt x (n + i) := by
  show (x.toUInt32 >>> ((nI n).toUInt32 &&& Int32.toUInt32 31)).toBitVec.getLsbD i = x.toUInt32.toBitVec.getLsbD (n + i)
  rw [UInt32.toBitVec_shiftRight]
  show (x.toUInt32.toBitVec >>> (((nI n).toUInt32 &&& Int32.toUInt32 31).toBitVec % 32).toNat).getLsbD i = _
  rw [s_u n hn, BitVec.getLsbD_ushiftRight]
theorem b_sshr (n : Nat) (hn : n < 32) (x : Int32) {i : Nat} (hi : i < 32) : bt (x >>> (nI n &&& 31)) i = if n + i < 32 then bt x (n + i) else bt x 31 := by
  unfold bt
  rw [Int32.toBitVec_shiftRight]
  show (x.toBitVec.sshiftRight ((nI n &&& 31).toBitVec.smod 32).toNat).getLsbD i = _
  rw [s_l n hn, BitVec.getLsbD_sshiftRight, BitVec.msb_eq_getLsbD_last]
  simp [hi]
theorem b_shl8 (x : Int32) {i : Nat} (hi : i < 32) : bt (x <<< ((8 : Int32) &&& 31)) i = (decide (8 ≤ i) && bt x (i - 8)) := b_shl 8 (by omega) x hi
theorem b_shl16 (x : Int32) {i : Nat} (hi : i < 32) : bt (x <<< ((16 : Int32) &&& 31)) i = (decide (16 ≤ i) && bt x (i - 16)) := b_shl 16 (by omega) x hi
theorem b_1 (i : Nat) : bt 1 i = decide (i = 0) := by
  rcases Nat.lt_or_ge i 32 with h | h
  · exact (by decide +kernel : ∀ i, i < 32 → bt 1 i = decide (i = 0)) i h
  · rw [b_big h, decide_eq_false (by omega)]
theorem bit_bt {w : Int32} {q : Nat} (hq : q < 32) : (bit w (nI q) = 1) = (bt w q = true) := by
  apply propext
  unfold bit
  constructor
  · intro h
    have := congrArg (fun x => bt x 0) h
    simp only [b_and, b_1, b_sshr q hq w (show 0 < 32 by omega)] at this
    simpa [hq] using this
  · intro h
    apply b_ext
    intro i hi
    rw [b_and, b_1, b_sshr q hq w hi]
    by_cases e : i = 0
    · subst e; simp [hq, h]
    · simp [e]
theorem bt_or1 {w : Int32} {p q : Nat} (hp : p < 32) (hq : q < 32) : bt (w ||| 1 <<< (nI p &&& 31)) q = (decide (q = p) || bt w q) := by
  rw [b_or, b_shl p hp 1 hq, b_1]
  by_cases e : q = p
  · subst e; simp
  · by_cases e2 : p ≤ q
    · have : ¬ q - p = 0 := by omega
      simp [e, this]
    · simp [e, e2]
theorem bit_or1 {w : Int32} {p q : Nat} (hp : p < 32) (hq : q < 32) : (bit (w ||| 1 <<< (nI p &&& 31)) (nI q) = 1) = (q = p ∨ bit w (nI q) = 1) := by
  rw [bit_bt hq, bit_bt hq, bt_or1 hp hq]
  simp
theorem upd_sh (f : Nat → Int32) (c b p : Nat) (v : Int32) : upd f (c + b) v (c + p) = if p = b then v else f (c + p) := by
  simp only [upd, Nat.add_left_cancel_iff]
theorem min_sym (x y : Int32) : (if x < y then x else y) = if y < x then y else x := by
  by_cases h1 : x < y
  · have : ¬ y < x := by rw [Int32.not_lt]; exact Int32.le_of_lt h1
    simp [h1, this]
  · by_cases h2 : y < x
    · simp [h1, h2]
    · have : x = y := Int32.le_antisymm (Int32.not_lt.mp h2) (Int32.not_lt.mp h1)
      simp [h1, h2, this]
section
variable {s : Nat → Int32} {l l' k : Nat → Nat → Int32} {P S : Nat}
theorem LSb.cg (h : LSb s l) (e : ∀ j, l j = l' j) : LSb s l' := by rw [show l' = l from funext fun j => (e j).symm]; exact h
theorem LSb_u1 (h : LSb s l) {b : Nat} (hb : b < 8) (v : Int32) : LSb (upd s (137 + b) v) (vf_upd l 1 (upd (l 1) b v)) := by
  obtain ⟨a1, a2, a3, a4, a5, a6, a7, a8, a9, a10, a11, a12⟩ := h
  refine ⟨?_, ?_, ?_, ?_, ?_, ?_, ?_, ?_, ?_, ?_, ?_, ?_⟩ <;> intros <;> simp (disch := omega) [vf_upd, pk_un, *]
  simp only [upd_sh, upd]; split <;> simp_all
theorem LSb_u2 (h : LSb s l) {b : Nat} (hb : b < 8) (v : Int32) : LSb (upd s (145 + b) v) (vf_upd l 2 (upd (l 2) b v)) := by
  obtain ⟨a1, a2, a3, a4, a5, a6, a7, a8, a9, a10, a11, a12⟩ := h
  refine ⟨?_, ?_, ?_, ?_, ?_, ?_, ?_, ?_, ?_, ?_, ?_, ?_⟩ <;> intros <;> simp (disch := omega) [vf_upd, pk_un, *]
  simp only [upd_sh, upd]; split <;> simp_all
theorem LSb_u3 (h : LSb s l) {b : Nat} (hb : b < 8) (v : Int32) : LSb (upd s (161 + b) v) (vf_upd l 3 (upd (l 3) b v)) := by
  obtain ⟨a1, a2, a3, a4, a5, a6, a7, a8, a9, a10, a11, a12⟩ := h
  refine ⟨?_, ?_, ?_, ?_, ?_, ?_, ?_, ?_, ?_, ?_, ?_, ?_⟩ <;> intros <;> simp (disch := omega) [vf_upd, pk_un, *]
  simp only [upd_sh, upd]; split <;> simp_all
theorem LSb_u4 (h : LSb s l) {b : Nat} (hb : b < 8) (v : Int32) : LSb (upd s (169 + b) v) (vf_upd l 4 (upd (l 4) b v)) := by
  obtain ⟨a1, a2, a3, a4, a5, a6, a7, a8, a9, a10, a11, a12⟩ := h
  refine ⟨?_, ?_, ?_, ?_, ?_, ?_, ?_, ?_, ?_, ?_, ?_, ?_⟩ <;> intros <;> simp (disch := omega) [vf_upd, pk_un, *]
  simp only [upd_sh, upd]; split <;> simp_all
theorem LSb_u5 (h : LSb s l) {b : Nat} (hb : b < 64) (v : Int32) : LSb (upd s (177 + b) v) (vf_upd l 5 (upd (l 5) b v)) := by
  obtain ⟨a1, a2, a3, a4, a5, a6, a7, a8, a9, a10, a11, a12⟩ := h
  refine ⟨?_, ?_, ?_, ?_, ?_, ?_, ?_, ?_, ?_, ?_, ?_, ?_⟩ <;> intros <;> simp (disch := omega) [vf_upd, pk_un, *]
  simp only [upd_sh, upd]; split <;> simp_all
theorem LSb_u6 (h : LSb s l) {b : Nat} (hb : b < 8) (v : Int32) : LSb (upd s (241 + b) v) (vf_upd l 6 (upd (l 6) b v)) := by
  obtain ⟨a1, a2, a3, a4, a5, a6, a7, a8, a9, a10, a11, a12⟩ := h
  refine ⟨?_, ?_, ?_, ?_, ?_, ?_, ?_, ?_, ?_, ?_, ?_, ?_⟩ <;> intros <;> simp (disch := omega) [vf_upd, pk_un, *]
  simp only [upd_sh, upd]; split <;> simp_all
theorem LSb_u7 (h : LSb s l) {b : Nat} (hb : b < 8) (v : Int32) : LSb (upd s (249 + b) v) (vf_upd l 7 (upd (l 7) b v)) := by
  obtain ⟨a1, a2, a3, a4, a5, a6, a7, a8, a9, a10, a11, a12⟩ := h
  refine ⟨?_, ?_, ?_, ?_, ?_, ?_, ?_, ?_, ?_, ?_, ?_, ?_⟩ <;> intros <;> simp (disch := omega) [vf_upd, pk_un, *]
  simp only [upd_sh, upd]; split <;> simp_all
theorem LSb_u9 (h : LSb s l) {b : Nat} (hb : b < 8) : LSb (upd s (153 + b) 1) (vf_upd l 9 (fun _ => l 9 0 ||| 1 <<< (nI b &&& 31))) := by
  obtain ⟨a1, a2, a3, a4, a5, a6, a7, a8, a9, a10, a11, a12⟩ := h
  have e7 : ∀ p, p < 8 → upd s (153 + b) 1 (153 + p) = b01 (bit (vf_upd l 9 (fun _ => l 9 0 ||| 1 <<< (nI b &&& 31)) 9 0) (nI p) = 1) := by
    intro p hp
    rw [upd_sh, show (vf_upd l 9 (fun _ => l 9 0 ||| 1 <<< (nI b &&& 31))) 9 0 = (l 9 0 ||| 1 <<< (nI b &&& 31)) from rfl, a7 p hp]
    unfold b01
    simp only [bit_or1 (show b < 32 by omega) (show p < 32 by omega)]
    by_cases e : p = b <;> simp [e]
  refine ⟨?_, ?_, ?_, ?_, ?_, ?_, e7, ?_, ?_, ?_, ?_, ?_⟩ <;> intros <;> simp (disch := omega) [vf_upd, pk_un, *]
theorem LSb_u10 (h : LSb s l) (v : Int32) : LSb (upd s 132 v) (vf_upd l 10 (fun _ => v)) := by
  obtain ⟨a1, a2, a3, a4, a5, a6, a7, a8, a9, a10, a11, a12⟩ := h
  refine ⟨?_, ?_, ?_, ?_, ?_, ?_, ?_, ?_, ?_, ?_, ?_, ?_⟩ <;> intros <;> simp (disch := omega) [vf_upd, pk_un, pk_us, *]
theorem LSb_u11 (h : LSb s l) (v : Int32) : LSb (upd s 134 v) (vf_upd l 11 (fun _ => v)) := by
  obtain ⟨a1, a2, a3, a4, a5, a6, a7, a8, a9, a10, a11, a12⟩ := h
  refine ⟨?_, ?_, ?_, ?_, ?_, ?_, ?_, ?_, ?_, ?_, ?_, ?_⟩ <;> intros <;> simp (disch := omega) [vf_upd, pk_un, pk_us, *]
theorem LSb_u12 (h : LSb s l) (v : Int32) : LSb (upd s 135 v) (vf_upd l 12 (fun _ => v)) := by
  obtain ⟨a1, a2, a3, a4, a5, a6, a7, a8, a9, a10, a11, a12⟩ := h
  refine ⟨?_, ?_, ?_, ?_, ?_, ?_, ?_, ?_, ?_, ?_, ?_, ?_⟩ <;> intros <;> simp (disch := omega) [vf_upd, pk_un, pk_us, *]
theorem LSb_u13 (h : LSb s l) (v : Int32) : LSb (upd s 136 v) (vf_upd l 13 (fun _ => v)) := by
  obtain ⟨a1, a2, a3, a4, a5, a6, a7, a8, a9, a10, a11, a12⟩ := h
  refine ⟨?_, ?_, ?_, ?_, ?_, ?_, ?_, ?_, ?_, ?_, ?_, ?_⟩ <;> intros <;> simp (disch := omega) [vf_upd, pk_un, pk_us, *]
/-- numbers that are no part of what is so -/
theorem LSb_no (h : LSb s l) {i : Nat} (hi : i < 132 ∨ i = 133 ∨ 257 ≤ i) (v : Int32) : LSb (upd s i v) l := by
  obtain ⟨a1, a2, a3, a4, a5, a6, a7, a8, a9, a10, a11, a12⟩ := h
  refine ⟨?_, ?_, ?_, ?_, ?_, ?_, ?_, ?_, ?_, ?_, ?_, ?_⟩ <;> intros <;> simp (disch := omega) [pk_un, *]
theorem KS_no (h : KS s k P S) {i : Nat} (hi : 68 ≤ i) (v : Int32) : KS (upd s i v) k P S := by
  obtain ⟨hP, hS, kP, kS, a1, a2, a3, a4, a5, a6, a7, a8, a9, a10, a11⟩ := h
  refine ⟨hP, hS, kP, kS, ?_, ?_, ?_, ?_, ?_, ?_, ?_, ?_, ?_, ?_, ?_⟩ <;> intros <;> simp (disch := omega) [pk_un, *]
theorem KS.kept {s' : Nat → Int32} (h : KS s k P S) (e : ∀ i, i < 68 → s' i = s i) : KS s' k P S := by
  obtain ⟨hP, hS, kP, kS, a1, a2, a3, a4, a5, a6, a7, a8, a9, a10, a11⟩ := h
  refine ⟨hP, hS, kP, kS, ?_, ?_, ?_, ?_, ?_, ?_, ?_, ?_, ?_, ?_, ?_⟩ <;> intros <;> rw [e _ (by omega)] <;> simp (disch := omega) [*]
theorem LSb.kept {s' : Nat → Int32} (h : LSb s l) (e : ∀ i, 132 ≤ i → i < 257 → s' i = s i) : LSb s' l := by
  obtain ⟨a1, a2, a3, a4, a5, a6, a7, a8, a9, a10, a11, a12⟩ := h
  refine ⟨?_, ?_, ?_, ?_, ?_, ?_, ?_, ?_, ?_, ?_, ?_, ?_⟩ <;> intros <;> rw [e _ (by omega) (by omega)] <;> simp (disch := omega) [*]
theorem LSx.kept {s' : Nat → Int32} (h : LSx s l) (e : ∀ i, 132 ≤ i → i < 257 → s' i = s i) : LSx s' l := ⟨h.1.kept e, by rw [e _ (by omega) (by omega)]; exact h.2⟩
end
/-- the reference's notes when a comes to owe b x hours -/
def oweS (s : Nat → Int32) (a b : Nat) (x : Int32) : Nat → Int32 :=
  upd (upd s (177 + 8 * b + a) (s (177 + 8 * b + a) - (if s (177 + 8 * b + a) < x then s (177 + 8 * b + a) else x))) (177 + 8 * a + b) (upd s (177 + 8 * b + a) (s (177 + 8 * b + a) - (if s (177 + 8 * b + a) < x then s (177 + 8 * b + a) else x)) (177 + 8 * a + b) + (x - (if s (177 + 8 * b + a) < x then s (177 + 8 * b + a) else x)))
theorem LSb_owe {s : Nat → Int32} {l : Nat → Nat → Int32} (h : LSb s l) {a b : Nat} (ha : a < 8) (hb : b < 8) (x : Int32) : LSb (oweS s a b x) (vf_upd l 5 (oweF (l 5) a b x)) := by
  have e1 := h.nt hb ha
  have h1 := LSb_u5 h (b := b * 8 + a) (by omega) (s (177 + 8 * b + a) - (if s (177 + 8 * b + a) < x then s (177 + 8 * b + a) else x))
  rw [show 177 + (b * 8 + a) = 177 + 8 * b + a by omega] at h1
  have e2 := h1.nt ha hb
  have h2 := LSb_u5 h1 (b := a * 8 + b) (by omega) (upd s (177 + 8 * b + a) (s (177 + 8 * b + a) - (if s (177 + 8 * b + a) < x then s (177 + 8 * b + a) else x)) (177 + 8 * a + b) + (x - (if s (177 + 8 * b + a) < x then s (177 + 8 * b + a) else x)))
  rw [show 177 + (a * 8 + b) = 177 + 8 * a + b by omega] at h2
  refine h2.cg (fun j => ?_)
  rw [e2, e1]
  by_cases hj : j = 5
  · subst hj; simp [vf_upd, oweF]
  · simp [vf_upd, hj]
theorem oweS_no {s : Nat → Int32} {a b i : Nat} {x : Int32} (hi : i < 177 ∨ 241 ≤ i) (ha : a < 8) (hb : b < 8) : oweS s a b x i = s i := by
  simp (disch := omega) [oweS, pk_un]
set_option maxHeartbeats 4000000 in
theorem comes_eq {a b : Nat} (ha : a < 8) (hb : b < 8) {x : Int32} : aw ET G (d + 1) 223 0 [some (.ref 199), some (.int (nI a)), some (.int (nI b)), some (.int x), none] [] 231 sl (mem X Y) Q = Q [] 231 sl (mem (va_up X 201 (oweS (X 201) a b x)) Y) := by
  simp (disch := omega) [w223_0, w223_1, x223_2, w223_5, w223_8, w223_10, w223_11, w223_12, w223_13, w223_14, w223_15, x223_16, w223_19, w223_21, x223_22, w223_25, w223_28, w223_30, w223_31, w223_32, w223_33, w223_34, w223_35, w223_36, w223_37, w223_39, w223_40, w223_41, x223_42, w223_45, w223_48, w223_50, w223_51, w223_52, w223_53, w223_54, w223_55, w223_56, w223_57, w223_58, w223_60, w223_61, w223_62, w223_63, rt223, aw_st, ai_cls, ai_len, ai_p, ai_sw, ai_m, ai_c, ai_at, ai_isI, ai_isJ, ai_isA, ai_ld, ai_1i, ai_2i, ai_2l, ai_cn, ai_j, ai_set, ai_set2, ai_nl, ai_rs, ai_sm, Value.category, hk0, hk1, lits, litb, litm, litm2, or_n0, bit_r, fi0, fi1, fi2, fi3, nI_add, pk_mul, nI_leI, nI_ltI, nI_eq, pk_sub, ib_nI, nI_clamp, va_up_self, va_up_ne, va_up_up, va_up_comm, pk_us, pk_un, upd_up, updL_up, pk_uLs, pk_uLn, b01_1, b01_0, b01_1s, b01_0s, or_b, mm200, mu200, mm201, mu201, mm202, mu202, mm203, mu203, mm204, mu204, mm205, mu205, mm206, mu206, mm207, mu207, mm208, mu208, mm209, mu209, mm210, mu210, mm211, mu211, mm212, mu212, mm213, mu213, mm214, mu214, mm215, mu215, mm216, mu216, mm217, mu217, mm218, mu218, mm219, mu219, mm220, mu220, mm221, mu221, mm222, mu222, mm223, mu223, mm224, mu224, mm225, mu225, mm226, mu226, mm227, mu227, mm228, mu228, mm229, mu229, mm230, mu230, lesser_eq, oweS, min_sym x]
set_option maxHeartbeats 4000000 in
theorem whyHear_eq {l k : Nat → Nat → Int32} {P S : Nat} (h : LSb (X 201) l) (hk : KS (X 201) k P S) {a b : Nat} (ha : a < 8) (hb : b < 8) {x : Int32} : aw ET G d 218 0 [some (.ref 199), some (.int (nI a)), some (.int (nI b)), some (.int x)] [] 231 sl (mem X Y) Q = Q [.int (whyI l k a b x)] 231 sl (mem X Y) := by
  obtain ⟨a1, a2, a3, a4, a5, a6, a7, a8, a9, a10, a11, a12⟩ := h
  obtain ⟨hP, hS, kP, kS, k1, k2, k3, k4, k5, k6, k7, k8, k9, k10, k11⟩ := hk
  by_cases e1 : a = b
  · simp (disch := omega) [w218_0, w218_1, w218_2, w218_5, w218_6, w218_9, x218_10, w218_13, w218_16, w218_17, w218_18, w218_19, w218_20, w218_23, w218_24, w218_27, x218_28, w218_31, w218_34, w218_35, w218_36, w218_37, w218_38, w218_41, w218_42, w218_45, x218_46, w218_49, w218_52, w218_53, w218_54, w218_55, w218_56, w218_59, x218_60, w218_63, w218_65, w218_66, w218_67, w218_68, w218_71, w218_72, w218_75, w218_76, rt218, aw_st, ai_cls, ai_len, ai_p, ai_sw, ai_m, ai_c, ai_at, ai_isI, ai_isJ, ai_isA, ai_ld, ai_1i, ai_2i, ai_2l, ai_cn, ai_j, ai_set, ai_set2, ai_nl, ai_rs, ai_sm, Value.category, hk0, hk1, lits, litb, litm, litm2, or_n0, bit_r, fi0, fi1, fi2, fi3, nI_add, pk_mul, nI_leI, nI_ltI, nI_eq, pk_sub, ib_nI, nI_clamp, va_up_self, va_up_ne, va_up_up, va_up_comm, pk_us, pk_un, upd_up, updL_up, pk_uLs, pk_uLn, b01_1, b01_0, b01_1s, b01_0s, or_b, mm200, mu200, mm201, mu201, mm202, mu202, mm203, mu203, mm204, mu204, mm205, mu205, mm206, mu206, mm207, mu207, mm208, mu208, mm209, mu209, mm210, mu210, mm211, mu211, mm212, mu212, mm213, mu213, mm214, mu214, mm215, mu215, mm216, mu216, mm217, mu217, mm218, mu218, mm219, mu219, mm220, mu220, mm221, mu221, mm222, mu222, mm223, mu223, mm224, mu224, mm225, mu225, mm226, mu226, mm227, mu227, mm228, mu228, mm229, mu229, mm230, mu230, a5, a6, a7, k7, whyI, e1]
  · rcases lt_or (l 2 a) x with ⟨g1, g2⟩ | ⟨g1, g2⟩
    · simp (disch := omega) [w218_0, w218_1, w218_2, w218_5, w218_6, w218_9, x218_10, w218_13, w218_16, w218_17, w218_18, w218_19, w218_20, w218_23, w218_24, w218_27, x218_28, w218_31, w218_34, w218_35, w218_36, w218_37, w218_38, w218_41, w218_42, w218_45, x218_46, w218_49, w218_52, w218_53, w218_54, w218_55, w218_56, w218_59, x218_60, w218_63, w218_65, w218_66, w218_67, w218_68, w218_71, w218_72, w218_75, w218_76, rt218, aw_st, ai_cls, ai_len, ai_p, ai_sw, ai_m, ai_c, ai_at, ai_isI, ai_isJ, ai_isA, ai_ld, ai_1i, ai_2i, ai_2l, ai_cn, ai_j, ai_set, ai_set2, ai_nl, ai_rs, ai_sm, Value.category, hk0, hk1, lits, litb, litm, litm2, or_n0, bit_r, fi0, fi1, fi2, fi3, nI_add, pk_mul, nI_leI, nI_ltI, nI_eq, pk_sub, ib_nI, nI_clamp, va_up_self, va_up_ne, va_up_up, va_up_comm, pk_us, pk_un, upd_up, updL_up, pk_uLs, pk_uLn, b01_1, b01_0, b01_1s, b01_0s, or_b, mm200, mu200, mm201, mu201, mm202, mu202, mm203, mu203, mm204, mu204, mm205, mu205, mm206, mu206, mm207, mu207, mm208, mu208, mm209, mu209, mm210, mu210, mm211, mu211, mm212, mu212, mm213, mu213, mm214, mu214, mm215, mu215, mm216, mu216, mm217, mu217, mm218, mu218, mm219, mu219, mm220, mu220, mm221, mu221, mm222, mu222, mm223, mu223, mm224, mu224, mm225, mu225, mm226, mu226, mm227, mu227, mm228, mu228, mm229, mu229, mm230, mu230, a5, a6, a7, k7, whyI, e1, g1, g2]
    · rcases lt_or (l 1 b) x with ⟨g3, g4⟩ | ⟨g3, g4⟩
      · simp (disch := omega) [w218_0, w218_1, w218_2, w218_5, w218_6, w218_9, x218_10, w218_13, w218_16, w218_17, w218_18, w218_19, w218_20, w218_23, w218_24, w218_27, x218_28, w218_31, w218_34, w218_35, w218_36, w218_37, w218_38, w218_41, w218_42, w218_45, x218_46, w218_49, w218_52, w218_53, w218_54, w218_55, w218_56, w218_59, x218_60, w218_63, w218_65, w218_66, w218_67, w218_68, w218_71, w218_72, w218_75, w218_76, rt218, aw_st, ai_cls, ai_len, ai_p, ai_sw, ai_m, ai_c, ai_at, ai_isI, ai_isJ, ai_isA, ai_ld, ai_1i, ai_2i, ai_2l, ai_cn, ai_j, ai_set, ai_set2, ai_nl, ai_rs, ai_sm, Value.category, hk0, hk1, lits, litb, litm, litm2, or_n0, bit_r, fi0, fi1, fi2, fi3, nI_add, pk_mul, nI_leI, nI_ltI, nI_eq, pk_sub, ib_nI, nI_clamp, va_up_self, va_up_ne, va_up_up, va_up_comm, pk_us, pk_un, upd_up, updL_up, pk_uLs, pk_uLn, b01_1, b01_0, b01_1s, b01_0s, or_b, mm200, mu200, mm201, mu201, mm202, mu202, mm203, mu203, mm204, mu204, mm205, mu205, mm206, mu206, mm207, mu207, mm208, mu208, mm209, mu209, mm210, mu210, mm211, mu211, mm212, mu212, mm213, mu213, mm214, mu214, mm215, mu215, mm216, mu216, mm217, mu217, mm218, mu218, mm219, mu219, mm220, mu220, mm221, mu221, mm222, mu222, mm223, mu223, mm224, mu224, mm225, mu225, mm226, mu226, mm227, mu227, mm228, mu228, mm229, mu229, mm230, mu230, a5, a6, a7, k7, whyI, e1, g1, g2, g3, g4]
      · simp (disch := omega) [w218_0, w218_1, w218_2, w218_5, w218_6, w218_9, x218_10, w218_13, w218_16, w218_17, w218_18, w218_19, w218_20, w218_23, w218_24, w218_27, x218_28, w218_31, w218_34, w218_35, w218_36, w218_37, w218_38, w218_41, w218_42, w218_45, x218_46, w218_49, w218_52, w218_53, w218_54, w218_55, w218_56, w218_59, x218_60, w218_63, w218_65, w218_66, w218_67, w218_68, w218_71, w218_72, w218_75, w218_76, rt218, aw_st, ai_cls, ai_len, ai_p, ai_sw, ai_m, ai_c, ai_at, ai_isI, ai_isJ, ai_isA, ai_ld, ai_1i, ai_2i, ai_2l, ai_cn, ai_j, ai_set, ai_set2, ai_nl, ai_rs, ai_sm, Value.category, hk0, hk1, lits, litb, litm, litm2, or_n0, bit_r, fi0, fi1, fi2, fi3, nI_add, pk_mul, nI_leI, nI_ltI, nI_eq, pk_sub, ib_nI, nI_clamp, va_up_self, va_up_ne, va_up_up, va_up_comm, pk_us, pk_un, upd_up, updL_up, pk_uLs, pk_uLn, b01_1, b01_0, b01_1s, b01_0s, or_b, mm200, mu200, mm201, mu201, mm202, mu202, mm203, mu203, mm204, mu204, mm205, mu205, mm206, mu206, mm207, mu207, mm208, mu208, mm209, mu209, mm210, mu210, mm211, mu211, mm212, mu212, mm213, mu213, mm214, mu214, mm215, mu215, mm216, mu216, mm217, mu217, mm218, mu218, mm219, mu219, mm220, mu220, mm221, mu221, mm222, mu222, mm223, mu223, mm224, mu224, mm225, mu225, mm226, mu226, mm227, mu227, mm228, mu228, mm229, mu229, mm230, mu230, a5, a6, a7, k7, whyI, e1, g1, g2, g3, g4]
        by_cases e2 : bit (l 9 0) (nI b) = nI 1 <;> by_cases e3 : bit (k 9 0) (nI b) = nI 1 <;> simp [e2, e3]
end RFB
