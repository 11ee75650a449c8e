/-! STRIKE: the reference's -/
section RNW
variable {G : ai_G} {d n sl : Nat} {Q : List Value → Nat → Nat → ai_M → Prop} {l k : Nat → Nat → Int32} {P S m : Nat} {ls : Nat → Nat → Nat → Int32} {Y : mY} {X : mX}
/-- a life when all its rings are struck out -/
def stkL (P : Nat) (l : Nat → Nat → Int32) : Nat → Nat → Int32 := vf_upd (vf_upd l 5 (strk P 64 (l 5) (l 12 0) 0).1) 12 (fun _ => (strk P 64 (l 5) (l 12 0) 0).2.1)
theorem strk_0 (f : Nat → Int32) (h : Int32) : strk P 64 f h 0 = ((strk P 64 f 0 0).1, h + (strk P 64 f 0 0).2.1, (strk P 64 f 0 0).2.2) := by
  have := strk_h (P := P) 64 f h 0 0
  rw [Int32.add_zero] at this
  exact this
theorem strikes_wp (hL : LSx (X 201) l) (hk : KS (X 201) k P S) (hB : NQ (l 5)) (hQ : ∀ s' g', LSx s' (stkL P l) → (∀ i, i < 132 ∨ 257 ≤ i → s' i = X 201 i) → Q [.int (nI (strk P 64 (l 5) 0 0).2.2)] 231 sl (mem (Wst X (strk P 64 (l 5) 0 0).2.1 s' g') Y)) : aw ET G (d + 3) 233 0 [some (.ref 199), none, none, none, none] [] 231 sl (mem X Y) Q := by
  have hP := hk.1
  have k1 := hk.2.2.2.2.1
  have a10 := hL.1.2.2.2.2.2.2.2.2.2.1
  simp (disch := omega) [w233_0, w233_1, w233_2, w233_3, x233_4, w233_7, x233_8, aw_st, ai_cls, ai_len, ai_p, ai_sw, ai_m, ai_c, ai_at, ai_isI, ai_isJ, ai_isA, ai_ld, ai_1i, ai_2i, ai_2l, ai_cn, ai_j, ai_set, ai_set2, ai_nl, ai_rs, ai_sm, Value.category, hk0, hk1, lits, litb, litm, litm2, List.getElem?_cons_zero, List.getElem?_cons_succ, or_n0, bit_r, fi0, fi1, fi2, fi3, nI_toInt, nI_add, pk_mul, nI_leI, nI_ltI, nI_eq, pk_sub, ib_nI, nI_clamp, va_up_self, va_up_ne, va_up_up, va_up_comm, pk_us, pk_un, upd_up, updL_up, pk_uLs, pk_uLn, b01_1, b01_0, b01_1s, b01_0s, or_b, mm200, mu200, mm201, mu201, mm202, mu202, mm203, mu203, mm204, mu204, mm205, mu205, mm206, mu206, mm207, mu207, mm208, mu208, mm209, mu209, mm210, mu210, mm211, mu211, mm212, mu212, mm213, mu213, mm214, mu214, mm215, mu215, mm216, mu216, mm217, mu217, mm218, mu218, mm219, mu219, mm220, mu220, mm221, mu221, mm222, mu222, mm223, mu223, mm224, mu224, mm225, mu225, mm226, mu226, mm227, mu227, mm228, mu228, mm229, mu229, mm230, mu230]
  refine ringOf_wp (X := va_up X 199 (upd (X 199) 25 (nI 0))) (f := l 5) hP k1 ?_ hB.nn ?_
  · intro a b ha hb
    exact hL.1.nt ha hb
  · intro g' hw
    simp (disch := omega) [w233_11, aw_st, ai_cls, ai_len, ai_p, ai_sw, ai_m, ai_c, ai_at, ai_isI, ai_isJ, ai_isA, ai_ld, ai_1i, ai_2i, ai_2l, ai_cn, ai_j, ai_set, ai_set2, ai_nl, ai_rs, ai_sm, Value.category, hk0, hk1, lits, litb, litm, litm2, List.getElem?_cons_zero, List.getElem?_cons_succ, or_n0, bit_r, fi0, fi1, fi2, fi3, nI_toInt, nI_add, pk_mul, nI_leI, nI_ltI, nI_eq, pk_sub, ib_nI, nI_clamp, va_up_self, va_up_ne, va_up_up, va_up_comm, pk_us, pk_un, upd_up, updL_up, pk_uLs, pk_uLn, b01_1, b01_0, b01_1s, b01_0s, or_b, mm200, mu200, mm201, mu201, mm202, mu202, mm203, mu203, mm204, mu204, mm205, mu205, mm206, mu206, mm207, mu207, mm208, mu208, mm209, mu209, mm210, mu210, mm211, mu211, mm212, mu212, mm213, mu213, mm214, mu214, mm215, mu215, mm216, mu216, mm217, mu217, mm218, mu218, mm219, mu219, mm220, mu220, mm221, mu221, mm222, mu222, mm223, mu223, mm224, mu224, mm225, mu225, mm226, mu226, mm227, mu227, mm228, mu228, mm229, mu229, mm230, mu230]
    have hlo := strikes_loop (G := G) (d := d) (sl := sl) (Q := Q) (X := X) (Y := Y) hP 64 (l 5) (nI 0) 0 (X 201) g' none none (nzc_64 _ _) hB a10 k1 hw (fun s' g2 p1 p2 p3 => by
      refine hQ s' g2 ?_ (fun i hi => p2 i (by omega) (by omega))
      obtain ⟨⟨a1, a2, a3, a4, a5, a6, a7, a8, a9, a10, a11, a12⟩, a13⟩ := hL
      have ez := strk_0 (P := P) (l 5) (l 12 0)
      refine ⟨⟨?_, ?_, ?_, ?_, ?_, ?_, ?_, ?_, ?_, ?_, ?_, ?_⟩, ?_⟩
      · rw [p2 _ (by omega) (by omega)]; exact a1
      · rw [p2 _ (by omega) (by omega)]; exact a2
      · rw [p3, a3]; simp only [stkL, vf_upd, if_pos]; rw [ez]; rfl
      · rw [p2 _ (by omega) (by omega)]; exact a4
      · intro p hp; rw [p2 _ (by omega) (by omega)]; exact a5 p hp
      · intro p hp; rw [p2 _ (by omega) (by omega)]; exact a6 p hp
      · intro p hp; rw [p2 _ (by omega) (by omega)]; exact a7 p hp
      · intro p hp; rw [p2 _ (by omega) (by omega)]; exact a8 p hp
      · intro p hp; rw [p2 _ (by omega) (by omega)]; exact a9 p hp
      · intro i hi; rw [p1 i hi]; simp only [stkL, vf_upd]; rw [if_neg (by omega), if_pos trivial, ez]; rfl
      · intro p hp; rw [p2 _ (by omega) (by omega)]; exact a11 p hp
      · intro p hp; rw [p2 _ (by omega) (by omega)]; exact a12 p hp
      · rw [p2 _ (by omega) (by omega)]; exact a13)
    have e : Wst X (nI 0) (X 201) g' = va_up (va_up X 199 (upd (X 199) 25 (nI 0))) 206 g' := by
      unfold Wst
      funext j
      simp only [va_up]
      by_cases h1 : j = 206
      · simp [h1]
      · by_cases h2 : j = 201
        · subst h2; simp
        · simp [h1, h2]
    rw [e] at hlo
    exact hlo
theorem strk_none (h : ringS (l 5) P = none) (e : Int32) (c : Nat) : strk P 64 (l 5) e c = (l 5, e, c) := by
  rw [show (64 : Nat) = 63 + 1 from rfl]
  unfold strk
  rw [h]
theorem strk_le : ∀ (r : Nat) (f : Nat → Int32) (e : Int32) (c : Nat), c ≤ (strk P r f e c).2.2 := by
  intro r
  induction r with
  | zero => intro f e c; exact Nat.le_refl _
  | succ r ih =>
    intro f e c
    unfold strk
    cases ringS f P with
    | none => exact Nat.le_refl _
    | some z => exact Nat.le_trans (by omega) (ih _ _ (c + 1))
theorem strk_some {z : List Nat} (h : ringS (l 5) P = some z) (e : Int32) (c : Nat) : c + 1 ≤ (strk P 64 (l 5) e c).2.2 := by
  rw [show (64 : Nat) = 63 + 1 from rfl]
  unfold strk
  rw [h]
  exact strk_le _ _ _ _
set_option maxHeartbeats 4000000 in
theorem rstrike_wp (hL : LSx (X 201) l) (hk : KS (X 201) k P S) (hB : NQ (l 5)) (hU : US (X 208) m ls) (hm : X 199 28 = nI m) (hQ0 : ringS (l 5) P = none → ∀ g', Q [.int 0] 231 sl (mem (va_up (va_up X 199 (upd (upd (upd (X 199) 0 0) 29 1) 30 0)) 206 g') Y)) (hQ1 : ∀ z, ringS (l 5) P = some z → ∀ s' u' g', LSx s' (stkL P l) → (∀ i, i < 132 ∨ 257 ≤ i → s' i = X 201 i) → US u' (pushN m) (pushL m ls l) → ∀ f', f' 0 = 0 → f' 28 = nI (pushN m) → f' 29 = 1 → f' 30 = (strk P 64 (l 5) 0 0).2.1 → (∀ j, ¬ j = 0 → ¬ j = 25 → ¬ j = 28 → ¬ j = 29 → ¬ j = 30 → f' j = X 199 j) → Q [.int (nI (strk P 64 (l 5) 0 0).2.2)] 231 sl (mem (va_up (va_up (va_up (va_up X 199 f') 201 s') 206 g') 208 u') Y)) : aw ET G (d + 4) 232 0 [some (.ref 199), none] [] 231 sl (mem X Y) Q := by
  have hP := hk.1
  have k1 := hk.2.2.2.2.1
  simp (disch := omega) [w232_0, w232_1, x232_2, w232_5, w232_6, x232_7 (v := nI 0) (Or.inl rfl), x232_7 (v := nI 1) (Or.inr rfl), w232_10, w232_11, x232_12, w232_15, x232_16, w232_19, w232_22, w232_23, w232_24, x232_25, w232_28, x232_29, w232_32, w232_33, w232_34, x232_35, x232_38, w232_41, w232_42, rt232, aw_st, ai_cls, ai_len, ai_p, ai_sw, ai_m, ai_c, ai_at, ai_isI, ai_isJ, ai_isA, ai_ld, ai_1i, ai_2i, ai_2l, ai_cn, ai_j, ai_set, ai_set2, ai_nl, ai_rs, ai_sm, Value.category, hk0, hk1, lits, litb, litm, litm2, List.getElem?_cons_zero, List.getElem?_cons_succ, or_n0, bit_r, fi0, fi1, fi2, fi3, nI_toInt, nI_add, pk_mul, nI_leI, nI_ltI, nI_eq, pk_sub, ib_nI, nI_clamp, va_up_self, va_up_ne, va_up_up, va_up_comm, pk_us, pk_un, upd_up, updL_up, pk_uLs, pk_uLn, b01_1, b01_0, b01_1s, b01_0s, or_b, mm200, mu200, mm201, mu201, mm202, mu202, mm203, mu203, mm204, mu204, mm205, mu205, mm206, mu206, mm207, mu207, mm208, mu208, mm209, mu209, mm210, mu210, mm211, mu211, mm212, mu212, mm213, mu213, mm214, mu214, mm215, mu215, mm216, mu216, mm217, mu217, mm218, mu218, mm219, mu219, mm220, mu220, mm221, mu221, mm222, mu222, mm223, mu223, mm224, mu224, mm225, mu225, mm226, mu226, mm227, mu227, mm228, mu228, mm229, mu229, mm230, mu230]
  refine ringOf_wp (X := va_up X 199 (upd (upd (upd (X 199) 0 (nI 0)) 29 (nI 1)) 30 (nI 0))) (f := l 5) hP k1 (fun a b ha hb => hL.1.nt ha hb) hB.nn ?_
  intro g' hw
  cases hr : ringS (l 5) P with
  | none =>
    have := hQ0 hr g'
    simp (disch := omega) [w232_1, x232_2, w232_5, w232_6, x232_7 (v := nI 0) (Or.inl rfl), x232_7 (v := nI 1) (Or.inr rfl), w232_10, w232_11, x232_12, w232_15, x232_16, w232_19, w232_22, w232_23, w232_24, x232_25, w232_28, x232_29, w232_32, w232_33, w232_34, x232_35, x232_38, w232_41, w232_42, rt232, aw_st, ai_cls, ai_len, ai_p, ai_sw, ai_m, ai_c, ai_at, ai_isI, ai_isJ, ai_isA, ai_ld, ai_1i, ai_2i, ai_2l, ai_cn, ai_j, ai_set, ai_set2, ai_nl, ai_rs, ai_sm, Value.category, hk0, hk1, lits, litb, litm, litm2, List.getElem?_cons_zero, List.getElem?_cons_succ, or_n0, bit_r, fi0, fi1, fi2, fi3, nI_toInt, nI_add, pk_mul, nI_leI, nI_ltI, nI_eq, pk_sub, ib_nI, nI_clamp, va_up_self, va_up_ne, va_up_up, va_up_comm, pk_us, pk_un, upd_up, updL_up, pk_uLs, pk_uLn, b01_1, b01_0, b01_1s, b01_0s, or_b, mm200, mu200, mm201, mu201, mm202, mu202, mm203, mu203, mm204, mu204, mm205, mu205, mm206, mu206, mm207, mu207, mm208, mu208, mm209, mu209, mm210, mu210, mm211, mu211, mm212, mu212, mm213, mu213, mm214, mu214, mm215, mu215, mm216, mu216, mm217, mu217, mm218, mu218, mm219, mu219, mm220, mu220, mm221, mu221, mm222, mu222, mm223, mu223, mm224, mu224, mm225, mu225, mm226, mu226, mm227, mu227, mm228, mu228, mm229, mu229, mm230, mu230, rlen]
    exact this
  | some z =>
    obtain ⟨h3, hl, -⟩ := ringS_ok hr
    simp (disch := omega) [w232_1, x232_2, w232_5, w232_6, x232_7 (v := nI 0) (Or.inl rfl), x232_7 (v := nI 1) (Or.inr rfl), w232_10, w232_11, x232_12, w232_15, x232_16, w232_19, w232_22, w232_23, w232_24, x232_25, w232_28, x232_29, w232_32, w232_33, w232_34, x232_35, x232_38, w232_41, w232_42, rt232, aw_st, ai_cls, ai_len, ai_p, ai_sw, ai_m, ai_c, ai_at, ai_isI, ai_isJ, ai_isA, ai_ld, ai_1i, ai_2i, ai_2l, ai_cn, ai_j, ai_set, ai_set2, ai_nl, ai_rs, ai_sm, Value.category, hk0, hk1, lits, litb, litm, litm2, List.getElem?_cons_zero, List.getElem?_cons_succ, or_n0, bit_r, fi0, fi1, fi2, fi3, nI_toInt, nI_add, pk_mul, nI_leI, nI_ltI, nI_eq, pk_sub, ib_nI, nI_clamp, va_up_self, va_up_ne, va_up_up, va_up_comm, pk_us, pk_un, upd_up, updL_up, pk_uLs, pk_uLn, b01_1, b01_0, b01_1s, b01_0s, or_b, mm200, mu200, mm201, mu201, mm202, mu202, mm203, mu203, mm204, mu204, mm205, mu205, mm206, mu206, mm207, mu207, mm208, mu208, mm209, mu209, mm210, mu210, mm211, mu211, mm212, mu212, mm213, mu213, mm214, mu214, mm215, mu215, mm216, mu216, mm217, mu217, mm218, mu218, mm219, mu219, mm220, mu220, mm221, mu221, mm222, mu222, mm223, mu223, mm224, mu224, mm225, mu225, mm226, mu226, mm227, mu227, mm228, mu228, mm229, mu229, mm230, mu230, rlen, show ¬ z.length = 0 by omega]
    refine keep_wp (m := m) (l := l) (ls := ls) ?_ ?_ ?_ ?_
    · simp (disch := omega) [va_up_ne]; exact hU
    · simp (disch := omega) [va_up_ne, va_up_self, pk_un]; exact hm
    · simp (disch := omega) [va_up_ne]; exact hL
    · intro u' hu
      simp (disch := omega) [w232_1, x232_2, w232_5, w232_6, x232_7 (v := nI 0) (Or.inl rfl), x232_7 (v := nI 1) (Or.inr rfl), w232_10, w232_11, x232_12, w232_15, x232_16, w232_19, w232_22, w232_23, w232_24, x232_25, w232_28, x232_29, w232_32, w232_33, w232_34, x232_35, x232_38, w232_41, w232_42, rt232, aw_st, ai_cls, ai_len, ai_p, ai_sw, ai_m, ai_c, ai_at, ai_isI, ai_isJ, ai_isA, ai_ld, ai_1i, ai_2i, ai_2l, ai_cn, ai_j, ai_set, ai_set2, ai_nl, ai_rs, ai_sm, Value.category, hk0, hk1, lits, litb, litm, litm2, List.getElem?_cons_zero, List.getElem?_cons_succ, or_n0, bit_r, fi0, fi1, fi2, fi3, nI_toInt, nI_add, pk_mul, nI_leI, nI_ltI, nI_eq, pk_sub, ib_nI, nI_clamp, va_up_self, va_up_ne, va_up_up, va_up_comm, pk_us, pk_un, upd_up, updL_up, pk_uLs, pk_uLn, b01_1, b01_0, b01_1s, b01_0s, or_b, mm200, mu200, mm201, mu201, mm202, mu202, mm203, mu203, mm204, mu204, mm205, mu205, mm206, mu206, mm207, mu207, mm208, mu208, mm209, mu209, mm210, mu210, mm211, mu211, mm212, mu212, mm213, mu213, mm214, mu214, mm215, mu215, mm216, mu216, mm217, mu217, mm218, mu218, mm219, mu219, mm220, mu220, mm221, mu221, mm222, mu222, mm223, mu223, mm224, mu224, mm225, mu225, mm226, mu226, mm227, mu227, mm228, mu228, mm229, mu229, mm230, mu230]
      refine strikes_wp (l := l) (k := k) (P := P) (S := S) ?_ ?_ hB ?_
      · simp (disch := omega) [va_up_ne]; exact hL
      · simp (disch := omega) [va_up_ne]; exact hk
      · intro s' g2 p1 p2
        unfold Wst
        simp (disch := omega) [w232_1, x232_2, w232_5, w232_6, x232_7 (v := nI 0) (Or.inl rfl), x232_7 (v := nI 1) (Or.inr rfl), w232_10, w232_11, x232_12, w232_15, x232_16, w232_19, w232_22, w232_23, w232_24, x232_25, w232_28, x232_29, w232_32, w232_33, w232_34, x232_35, x232_38, w232_41, w232_42, rt232, aw_st, ai_cls, ai_len, ai_p, ai_sw, ai_m, ai_c, ai_at, ai_isI, ai_isJ, ai_isA, ai_ld, ai_1i, ai_2i, ai_2l, ai_cn, ai_j, ai_set, ai_set2, ai_nl, ai_rs, ai_sm, Value.category, hk0, hk1, lits, litb, litm, litm2, List.getElem?_cons_zero, List.getElem?_cons_succ, or_n0, bit_r, fi0, fi1, fi2, fi3, nI_toInt, nI_add, pk_mul, nI_leI, nI_ltI, nI_eq, pk_sub, ib_nI, nI_clamp, va_up_self, va_up_ne, va_up_up, va_up_comm, pk_us, pk_un, upd_up, updL_up, pk_uLs, pk_uLn, b01_1, b01_0, b01_1s, b01_0s, or_b, mm200, mu200, mm201, mu201, mm202, mu202, mm203, mu203, mm204, mu204, mm205, mu205, mm206, mu206, mm207, mu207, mm208, mu208, mm209, mu209, mm210, mu210, mm211, mu211, mm212, mu212, mm213, mu213, mm214, mu214, mm215, mu215, mm216, mu216, mm217, mu217, mm218, mu218, mm219, mu219, mm220, mu220, mm221, mu221, mm222, mu222, mm223, mu223, mm224, mu224, mm225, mu225, mm226, mu226, mm227, mu227, mm228, mu228, mm229, mu229, mm230, mu230]
        have hx := hQ1 z hr s' u' g2 p1 (fun i hi => by rw [p2 i hi]; simp (disch := omega) [va_up_ne]) hu
        refine hx _ ?_ ?_ ?_ ?_ ?_
        · simp [upd]; rfl
        · simp [upd]
        · simp [upd]; rfl
        · simp [upd]; rfl
        · intro j j0 j1 j2 j3 j4
          simp [upd, j0, j1, j2, j3, j4]
end RNW
