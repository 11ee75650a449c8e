/-! SAID: the reference, III -/
section SDG
variable {G : ai_G} {d sl : Nat} {Y : mY} {P S o : Nat} {L : List SC} {l k : Nat → Nat → Int32}
theorem isSaid_wp {X : mX} {p : Nat} {Q : List Value → Nat → Nat → ai_M → Prop} (hG : G.1 = false) (hl : LSb (X 201) l) (hk : KS (X 201) k P S) (hp : p < P) (hL : L.length ≤ 40) (hkp : SKr X L) (hz : ∀ z ∈ L, okZ P S z) (hh : hgS L 0 = some 1) (hQ : ∀ X', (∀ k, ¬ k = 226 → X' k = X k) → Q [.int (b01 (((evM P l k L []).headD 0).testBit p = true))] 231 sl (mem X' Y)) : aw ET G (d + 2) 284 0 [some (.ref 199), some (.int (nI p)), none, none, none] [] 231 sl (mem X Y) Q := by
  have := isSaid_loop (G := G) (d := d) (sl := sl) (Y := Y) (P := P) (S := S) (L := L) (X0 := X) (l := l) (k := k) (p := p) (Q := Q) hG hl hk hp hL hkp hz hQ L [] [] X none rfl (fun _ _ => rfl) trivial (fun m hm => absurd hm (by simp)) hh (Nat.le_refl _) rfl
  simp (disch := omega) [w284_0, w284_1, w284_2, w284_3, rt284, rt284, aw_st, ai_cls, ai_len, ai_p, ai_sw, ai_m, ai_c, ai_at, ai_isI, ai_isJ, ai_isA, ai_ld, ai_1i, ai_2i, ai_2l, ai_cn, ai_j, ai_set, ai_set2, ai_nl, ai_rs, ai_sm, Value.category, hk0, hk1, lits, litb, litm, litm2, List.getElem?_cons_zero, List.getElem?_cons_succ, or_n0, bit_r, fi0, fi1, fi2, fi3, nI_toInt, nI_add, pk_mul, nI_leI, nI_ltI, nI_eq, pk_sub, ib_nI, nI_clamp, va_up_self, va_up_ne, va_up_up, va_up_comm, pk_us, pk_un, upd_up, updL_up, pk_uLs, pk_uLn, b01_1, b01_0, b01_1s, b01_0s, or_b, mm200, mu200, mm201, mu201, mm202, mu202, mm203, mu203, mm204, mu204, mm205, mu205, mm206, mu206, mm207, mu207, mm208, mu208, mm209, mu209, mm210, mu210, mm211, mu211, mm212, mu212, mm213, mu213, mm214, mu214, mm215, mu215, mm216, mu216, mm217, mu217, mm218, mu218, mm219, mu219, mm220, mu220, mm221, mu221, mm222, mu222, mm223, mu223, mm224, mu224, mm225, mu225, mm226, mu226, mm227, mu227, mm228, mu228, mm229, mu229, mm230, mu230]
  exact this
def rsdT (m : Nat) (x : Int32) : Nat → Nat → Nat → Int32
  | 0, _, c => if x = mi1 then nI c else mi1
  | r + 1, p, c => if m.testBit p = true then (if nI c = x then nI p else rsdT m x r (p + 1) (c + 1)) else rsdT m x r (p + 1) c
theorem rsd_m {m : Nat} : ∀ (r p c : Nat), p ≤ 8 → c ≤ p → p + r ≤ 8 → rsdT m mi1 r p c = nI (c + cntT m r p) := by
  intro r
  induction r with
  | zero => intro p c _ _ _; show (if mi1 = mi1 then nI c else mi1) = nI (c + 0); rw [if_pos rfl, Nat.add_zero]
  | succ r ih =>
    intro p c hp hc hr
    unfold rsdT cntT
    by_cases q : m.testBit p = true
    · rw [if_pos q, if_pos q, if_neg (nI_mi1 (by omega)), ih (p + 1) (c + 1) (by omega) (by omega) (by omega)]
      congr 1
      omega
    · rw [if_neg q, if_neg q, ih (p + 1) c (by omega) (by omega) (by omega), Nat.zero_add]
theorem rsd_n {m : Nat} {x : Int32} (hx : ¬ x = mi1) : ∀ (r p c : Nat), rsdT m x r p c = nthT m x r p c := by
  intro r
  induction r with
  | zero => intro p c; show (if x = mi1 then nI c else mi1) = mi1; rw [if_neg hx]
  | succ r ih =>
    intro p c
    unfold rsdT nthT
    rw [ih, ih]
theorem nth_neg {m : Nat} {x : Int32} (hx : x < mi1) : ∀ (r p c : Nat), c ≤ p → p + r ≤ 8 → nthT m x r p c = mi1 := by
  intro r
  induction r with
  | zero => intro p c _ _; rfl
  | succ r ih =>
    intro p c hc hr
    unfold nthT
    rw [ih (p + 1) (c + 1) (by omega) (by omega), ih (p + 1) c (by omega) (by omega)]
    split
    · rw [if_neg]
      intro e
      rw [← e] at hx
      exact Int32.lt_irrefl (Int32.lt_trans hx (mi1_lt (by omega)))
    · rfl
theorem rsd_said {m : Nat} {x : Int32} (hP : P ≤ 8) : rsdT m x P 0 0 = saidV P m x := by
  unfold saidV
  by_cases e : x = mi1
  · rw [if_pos e, e, rsd_m P 0 0 (by omega) (by omega) (by omega), Nat.zero_add]
  · rw [if_neg e, rsd_n e]
set_option maxHeartbeats 8000000 in
theorem rsaid_loop {X0 : mX} {x : Int32} {Q : List Value → Nat → Nat → ai_M → Prop} (hG : G.1 = false) (hl : LSb (X0 201) l) (hk : KS (X0 201) k P S) (hL : L.length ≤ 40) (hkp : SKr X0 L) (hz : ∀ z ∈ L, okZ P S z) (hh : hgS L 0 = some 1) : ∀ (r p c : Nat) (X : mX), p + r = P → c ≤ p → (∀ k, ¬ k = 226 → X k = X0 k) → (∀ X', (∀ k, ¬ k = 226 → X' k = X0 k) → Q [.int (rsdT ((evM P l k L []).headD 0) x r p c)] 231 sl (mem X' Y)) → aw ET G (d + 3) 283 27 [some (.ref 199), some (.int x), some (.int (nI c)), some (.int (nI p))] [] 231 sl (mem X Y) Q := by
  have hP8 : P ≤ 8 := hk.1
  have h0 : X0 201 0 = nI P := hk.2.2.2.2.1
  intro r
  induction r with
  | zero =>
    intro p c X hp hc hX hQ
    have : p = P := by omega
    subst this
    have := hQ X hX
    unfold rsdT at this
    have h0' : X 201 0 = nI p := by rw [hX 201 (by omega)]; exact h0
    rw [w283_27]
    by_cases e : x = mi1
    · rw [if_pos e] at this
      subst e
      simp (disch := omega) [w283_28, x283_29, w283_32, w283_33, w283_34, w283_64, w283_65, w283_66, w283_69, w283_70, w283_73, w283_74, rt283, rt283, aw_st, ai_cls, ai_len, ai_p, ai_sw, ai_m, ai_c, ai_at, ai_isI, ai_isJ, ai_isA, ai_ld, ai_1i, ai_2i, ai_2l, ai_cn, ai_j, ai_set, ai_set2, ai_nl, ai_rs, ai_sm, Value.category, hk0, hk1, lits, litb, litm, litm2, List.getElem?_cons_zero, List.getElem?_cons_succ, or_n0, bit_r, fi0, fi1, fi2, fi3, nI_toInt, nI_add, pk_mul, nI_leI, nI_ltI, nI_eq, pk_sub, ib_nI, nI_clamp, va_up_self, va_up_ne, va_up_up, va_up_comm, pk_us, pk_un, upd_up, updL_up, pk_uLs, pk_uLn, b01_1, b01_0, b01_1s, b01_0s, or_b, mm200, mu200, mm201, mu201, mm202, mu202, mm203, mu203, mm204, mu204, mm205, mu205, mm206, mu206, mm207, mu207, mm208, mu208, mm209, mu209, mm210, mu210, mm211, mu211, mm212, mu212, mm213, mu213, mm214, mu214, mm215, mu215, mm216, mu216, mm217, mu217, mm218, mu218, mm219, mu219, mm220, mu220, mm221, mu221, mm222, mu222, mm223, mu223, mm224, mu224, mm225, mu225, mm226, mu226, mm227, mu227, mm228, mu228, mm229, mu229, mm230, mu230, h0']
      exact this
    · rw [if_neg e] at this
      simp (disch := omega) [w283_28, x283_29, w283_32, w283_33, w283_34, w283_64, w283_65, w283_66, w283_69, w283_70, w283_73, w283_74, rt283, rt283, aw_st, ai_cls, ai_len, ai_p, ai_sw, ai_m, ai_c, ai_at, ai_isI, ai_isJ, ai_isA, ai_ld, ai_1i, ai_2i, ai_2l, ai_cn, ai_j, ai_set, ai_set2, ai_nl, ai_rs, ai_sm, Value.category, hk0, hk1, lits, litb, litm, litm2, List.getElem?_cons_zero, List.getElem?_cons_succ, or_n0, bit_r, fi0, fi1, fi2, fi3, nI_toInt, nI_add, pk_mul, nI_leI, nI_ltI, nI_eq, pk_sub, ib_nI, nI_clamp, va_up_self, va_up_ne, va_up_up, va_up_comm, pk_us, pk_un, upd_up, updL_up, pk_uLs, pk_uLn, b01_1, b01_0, b01_1s, b01_0s, or_b, mm200, mu200, mm201, mu201, mm202, mu202, mm203, mu203, mm204, mu204, mm205, mu205, mm206, mu206, mm207, mu207, mm208, mu208, mm209, mu209, mm210, mu210, mm211, mu211, mm212, mu212, mm213, mu213, mm214, mu214, mm215, mu215, mm216, mu216, mm217, mu217, mm218, mu218, mm219, mu219, mm220, mu220, mm221, mu221, mm222, mu222, mm223, mu223, mm224, mu224, mm225, mu225, mm226, mu226, mm227, mu227, mm228, mu228, mm229, mu229, mm230, mu230, h0', e]
      exact this
  | succ r ih =>
    intro p c X hp hc hX hQ
    have h0' : X 201 0 = nI P := by rw [hX 201 (by omega)]; exact h0
    rw [w283_27]
    simp (disch := omega) [w283_28, x283_29, w283_32, w283_33, w283_34, w283_37, w283_38, rt283, rt283, aw_st, ai_cls, ai_len, ai_p, ai_sw, ai_m, ai_c, ai_at, ai_isI, ai_isJ, ai_isA, ai_ld, ai_1i, ai_2i, ai_2l, ai_cn, ai_j, ai_set, ai_set2, ai_nl, ai_rs, ai_sm, Value.category, hk0, hk1, lits, litb, litm, litm2, List.getElem?_cons_zero, List.getElem?_cons_succ, or_n0, bit_r, fi0, fi1, fi2, fi3, nI_toInt, nI_add, pk_mul, nI_leI, nI_ltI, nI_eq, pk_sub, ib_nI, nI_clamp, va_up_self, va_up_ne, va_up_up, va_up_comm, pk_us, pk_un, upd_up, updL_up, pk_uLs, pk_uLn, b01_1, b01_0, b01_1s, b01_0s, or_b, mm200, mu200, mm201, mu201, mm202, mu202, mm203, mu203, mm204, mu204, mm205, mu205, mm206, mu206, mm207, mu207, mm208, mu208, mm209, mu209, mm210, mu210, mm211, mu211, mm212, mu212, mm213, mu213, mm214, mu214, mm215, mu215, mm216, mu216, mm217, mu217, mm218, mu218, mm219, mu219, mm220, mu220, mm221, mu221, mm222, mu222, mm223, mu223, mm224, mu224, mm225, mu225, mm226, mu226, mm227, mu227, mm228, mu228, mm229, mu229, mm230, mu230, h0', show ¬ P ≤ p by omega]
    rw [x283_39, if_pos (by decide)]
    refine isSaid_wp (d := d) hG (by rw [hX 201 (by omega)]; exact hl) (by rw [hX 201 (by omega)]; exact hk) (by omega) hL (by unfold SKr at hkp ⊢; rw [hX 201 (by omega)]; exact hkp) hz hh (fun X' f => ?_)
    have hX' : ∀ k, ¬ k = 226 → X' k = X0 k := fun k hk => (f k hk).trans (hX k hk)
    unfold rsdT at hQ
    generalize (evM P l k L []).headD 0 = m at *
    cases q : m.testBit p
    · rw [q] at hQ
      simp only [Bool.false_eq_true, if_false] at hQ
      have e0 : b01 (false = true) = nI 0 := by decide
      have := ih (p + 1) c X' (by omega) (by omega) hX' hQ
      simp (disch := omega) [w283_42, w283_45, w283_58, w283_61, rt283, rt283, aw_st, ai_cls, ai_len, ai_p, ai_sw, ai_m, ai_c, ai_at, ai_isI, ai_isJ, ai_isA, ai_ld, ai_1i, ai_2i, ai_2l, ai_cn, ai_j, ai_set, ai_set2, ai_nl, ai_rs, ai_sm, Value.category, hk0, hk1, lits, litb, litm, litm2, List.getElem?_cons_zero, List.getElem?_cons_succ, or_n0, bit_r, fi0, fi1, fi2, fi3, nI_toInt, nI_add, pk_mul, nI_leI, nI_ltI, nI_eq, pk_sub, ib_nI, nI_clamp, va_up_self, va_up_ne, va_up_up, va_up_comm, pk_us, pk_un, upd_up, updL_up, pk_uLs, pk_uLn, b01_1, b01_0, b01_1s, b01_0s, or_b, mm200, mu200, mm201, mu201, mm202, mu202, mm203, mu203, mm204, mu204, mm205, mu205, mm206, mu206, mm207, mu207, mm208, mu208, mm209, mu209, mm210, mu210, mm211, mu211, mm212, mu212, mm213, mu213, mm214, mu214, mm215, mu215, mm216, mu216, mm217, mu217, mm218, mu218, mm219, mu219, mm220, mu220, mm221, mu221, mm222, mu222, mm223, mu223, mm224, mu224, mm225, mu225, mm226, mu226, mm227, mu227, mm228, mu228, mm229, mu229, mm230, mu230, e0]
      exact this
    · rw [q] at hQ
      simp only [eq_self, if_true] at hQ
      have e1 : b01 (true = true) = nI 1 := by decide
      by_cases e : nI c = x
      · rw [if_pos e] at hQ
        have := hQ X' hX'
        simp (disch := omega) [w283_42, w283_48, w283_49, w283_50, w283_53, w283_54, rt283, rt283, aw_st, ai_cls, ai_len, ai_p, ai_sw, ai_m, ai_c, ai_at, ai_isI, ai_isJ, ai_isA, ai_ld, ai_1i, ai_2i, ai_2l, ai_cn, ai_j, ai_set, ai_set2, ai_nl, ai_rs, ai_sm, Value.category, hk0, hk1, lits, litb, litm, litm2, List.getElem?_cons_zero, List.getElem?_cons_succ, or_n0, bit_r, fi0, fi1, fi2, fi3, nI_toInt, nI_add, pk_mul, nI_leI, nI_ltI, nI_eq, pk_sub, ib_nI, nI_clamp, va_up_self, va_up_ne, va_up_up, va_up_comm, pk_us, pk_un, upd_up, updL_up, pk_uLs, pk_uLn, b01_1, b01_0, b01_1s, b01_0s, or_b, mm200, mu200, mm201, mu201, mm202, mu202, mm203, mu203, mm204, mu204, mm205, mu205, mm206, mu206, mm207, mu207, mm208, mu208, mm209, mu209, mm210, mu210, mm211, mu211, mm212, mu212, mm213, mu213, mm214, mu214, mm215, mu215, mm216, mu216, mm217, mu217, mm218, mu218, mm219, mu219, mm220, mu220, mm221, mu221, mm222, mu222, mm223, mu223, mm224, mu224, mm225, mu225, mm226, mu226, mm227, mu227, mm228, mu228, mm229, mu229, mm230, mu230, e1, e]
        exact this
      · rw [if_neg e] at hQ
        have := ih (p + 1) (c + 1) X' (by omega) (by omega) hX' hQ
        simp (disch := omega) [w283_42, w283_48, w283_49, w283_50, w283_53, w283_54, w283_55, w283_58, w283_61, rt283, rt283, aw_st, ai_cls, ai_len, ai_p, ai_sw, ai_m, ai_c, ai_at, ai_isI, ai_isJ, ai_isA, ai_ld, ai_1i, ai_2i, ai_2l, ai_cn, ai_j, ai_set, ai_set2, ai_nl, ai_rs, ai_sm, Value.category, hk0, hk1, lits, litb, litm, litm2, List.getElem?_cons_zero, List.getElem?_cons_succ, or_n0, bit_r, fi0, fi1, fi2, fi3, nI_toInt, nI_add, pk_mul, nI_leI, nI_ltI, nI_eq, pk_sub, ib_nI, nI_clamp, va_up_self, va_up_ne, va_up_up, va_up_comm, pk_us, pk_un, upd_up, updL_up, pk_uLs, pk_uLn, b01_1, b01_0, b01_1s, b01_0s, or_b, mm200, mu200, mm201, mu201, mm202, mu202, mm203, mu203, mm204, mu204, mm205, mu205, mm206, mu206, mm207, mu207, mm208, mu208, mm209, mu209, mm210, mu210, mm211, mu211, mm212, mu212, mm213, mu213, mm214, mu214, mm215, mu215, mm216, mu216, mm217, mu217, mm218, mu218, mm219, mu219, mm220, mu220, mm221, mu221, mm222, mu222, mm223, mu223, mm224, mu224, mm225, mu225, mm226, mu226, mm227, mu227, mm228, mu228, mm229, mu229, mm230, mu230, e1, e]
        exact this
/-- SAID of the reference -/
theorem rsaid_none {X : mX} {x : Int32} {Q : List Value → Nat → Nat → ai_M → Prop} (h : X 201 257 = nI 0) : aw ET G d 283 0 [some (.ref 199), some (.int x), none, none] [] 231 sl (mem X Y) Q = Q [.int mi1] 231 sl (mem (tz X) Y) := by
  unfold tz
  simp (disch := omega) [w283_0, w283_1, x283_2, w283_5, x283_6, w283_9, w283_12, w283_13, w283_16, w283_17, w283_18, w283_21, w283_22, rt283, rt283, aw_st, ai_cls, ai_len, ai_p, ai_sw, ai_m, ai_c, ai_at, ai_isI, ai_isJ, ai_isA, ai_ld, ai_1i, ai_2i, ai_2l, ai_cn, ai_j, ai_set, ai_set2, ai_nl, ai_rs, ai_sm, Value.category, hk0, hk1, lits, litb, litm, litm2, List.getElem?_cons_zero, List.getElem?_cons_succ, or_n0, bit_r, fi0, fi1, fi2, fi3, nI_toInt, nI_add, pk_mul, nI_leI, nI_ltI, nI_eq, pk_sub, ib_nI, nI_clamp, va_up_self, va_up_ne, va_up_up, va_up_comm, pk_us, pk_un, upd_up, updL_up, pk_uLs, pk_uLn, b01_1, b01_0, b01_1s, b01_0s, or_b, mm200, mu200, mm201, mu201, mm202, mu202, mm203, mu203, mm204, mu204, mm205, mu205, mm206, mu206, mm207, mu207, mm208, mu208, mm209, mu209, mm210, mu210, mm211, mu211, mm212, mu212, mm213, mu213, mm214, mu214, mm215, mu215, mm216, mu216, mm217, mu217, mm218, mu218, mm219, mu219, mm220, mu220, mm221, mu221, mm222, mu222, mm223, mu223, mm224, mu224, mm225, mu225, mm226, mu226, mm227, mu227, mm228, mu228, mm229, mu229, mm230, mu230, h]
theorem rsaid_wp {X : mX} {x : Int32} {Q : List Value → Nat → Nat → ai_M → Prop} (hG : G.1 = false) (hl : LSb (X 201) l) (hk : KS (X 201) k P S) (hL : L.length ≤ 40) (hkp : SKr X L) (hz : ∀ z ∈ L, okZ P S z) (hh : hgS L 0 = some 1) (hQ : ∀ X', (∀ k, ¬ k = 226 → X' k = tz X k) → Q [.int (saidV P ((evM P l k L []).headD 0) x)] 231 sl (mem X' Y)) : aw ET G (d + 3) 283 0 [some (.ref 199), some (.int x), none, none] [] 231 sl (mem X Y) Q := by
  have hP8 : P ≤ 8 := hk.1
  have h257 : X 201 257 = nI L.length := hkp.1
  have hl0 : ¬ L.length = 0 := by
    intro e
    have : L = [] := List.eq_nil_of_length_eq_zero e
    rw [this] at hh
    cases hh
  have e201 : tz X 201 = X 201 := va_up_ne _ _ (by omega)
  rcases lt_or x mi1 with ⟨g1, g2⟩ | ⟨g1, g2⟩
  · have hs : saidV P ((evM P l k L []).headD 0) x = mi1 := by
      unfold saidV
      rw [if_neg (fun e => by rw [e] at g1; exact Int32.lt_irrefl g1)]
      exact nth_neg g1 P 0 0 (by omega) (by omega)
    have := hQ (tz X) (fun _ _ => rfl)
    rw [hs] at this
    unfold tz at this
    simp (disch := omega) [w283_0, w283_1, x283_2, w283_5, x283_6, w283_9, w283_12, w283_13, w283_16, w283_17, w283_18, w283_21, w283_22, rt283, rt283, aw_st, ai_cls, ai_len, ai_p, ai_sw, ai_m, ai_c, ai_at, ai_isI, ai_isJ, ai_isA, ai_ld, ai_1i, ai_2i, ai_2l, ai_cn, ai_j, ai_set, ai_set2, ai_nl, ai_rs, ai_sm, Value.category, hk0, hk1, lits, litb, litm, litm2, List.getElem?_cons_zero, List.getElem?_cons_succ, or_n0, bit_r, fi0, fi1, fi2, fi3, nI_toInt, nI_add, pk_mul, nI_leI, nI_ltI, nI_eq, pk_sub, ib_nI, nI_clamp, va_up_self, va_up_ne, va_up_up, va_up_comm, pk_us, pk_un, upd_up, updL_up, pk_uLs, pk_uLn, b01_1, b01_0, b01_1s, b01_0s, or_b, mm200, mu200, mm201, mu201, mm202, mu202, mm203, mu203, mm204, mu204, mm205, mu205, mm206, mu206, mm207, mu207, mm208, mu208, mm209, mu209, mm210, mu210, mm211, mu211, mm212, mu212, mm213, mu213, mm214, mu214, mm215, mu215, mm216, mu216, mm217, mu217, mm218, mu218, mm219, mu219, mm220, mu220, mm221, mu221, mm222, mu222, mm223, mu223, mm224, mu224, mm225, mu225, mm226, mu226, mm227, mu227, mm228, mu228, mm229, mu229, mm230, mu230, h257, hl0, g2]
    exact this
  · have := rsaid_loop (G := G) (d := d) (sl := sl) (Y := Y) (P := P) (S := S) (L := L) (X0 := tz X) (l := l) (k := k) (x := x) (Q := Q) hG (by rw [e201]; exact hl) (by rw [e201]; exact hk) hL (by unfold SKr at hkp ⊢; rw [e201]; exact hkp) hz hh P 0 0 (tz X) (by omega) (by omega) (fun _ _ => rfl) (fun X' f => by rw [rsd_said hP8]; exact hQ X' f)
    unfold tz at this
    simp (disch := omega) [w283_0, w283_1, x283_2, w283_5, x283_6, w283_9, w283_12, w283_13, w283_16, w283_17, w283_18, w283_23, w283_24, w283_25, w283_26, rt283, rt283, aw_st, ai_cls, ai_len, ai_p, ai_sw, ai_m, ai_c, ai_at, ai_isI, ai_isJ, ai_isA, ai_ld, ai_1i, ai_2i, ai_2l, ai_cn, ai_j, ai_set, ai_set2, ai_nl, ai_rs, ai_sm, Value.category, hk0, hk1, lits, litb, litm, litm2, List.getElem?_cons_zero, List.getElem?_cons_succ, or_n0, bit_r, fi0, fi1, fi2, fi3, nI_toInt, nI_add, pk_mul, nI_leI, nI_ltI, nI_eq, pk_sub, ib_nI, nI_clamp, va_up_self, va_up_ne, va_up_up, va_up_comm, pk_us, pk_un, upd_up, updL_up, pk_uLs, pk_uLn, b01_1, b01_0, b01_1s, b01_0s, or_b, mm200, mu200, mm201, mu201, mm202, mu202, mm203, mu203, mm204, mu204, mm205, mu205, mm206, mu206, mm207, mu207, mm208, mu208, mm209, mu209, mm210, mu210, mm211, mu211, mm212, mu212, mm213, mu213, mm214, mu214, mm215, mu215, mm216, mu216, mm217, mu217, mm218, mu218, mm219, mu219, mm220, mu220, mm221, mu221, mm222, mu222, mm223, mu223, mm224, mu224, mm225, mu225, mm226, mu226, mm227, mu227, mm228, mu228, mm229, mu229, mm230, mu230, h257, hl0, g2]
    exact this
end SDG
