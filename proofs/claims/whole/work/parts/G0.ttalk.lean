/-! TALKED: the class -/
section TTW
variable {G : ai_G} {d sl : Nat} {Y : mY} {P : Nat} {S : tS} {Q : List Value → Nat → Nat → ai_M → Prop} {X0 X : mX}
set_option maxHeartbeats 4000000 in
theorem choose_0 (hG : G.1 = false) (hP6 : P ≤ 6) (hk : KF X0 X P S) (hS : S.1 < 2000000) (hQ : ∀ X', TF X X' → KF X0 X' P (tlS (evR (X 43) P 0) 0 0 0 0 S) → Q [] 231 sl (mem X' Y)) : aw ET G (d + 2) 123 0 [some (.ref 42), some (.int (nI 0)), some (.int (nI 0)), some (.int (nI 0)), none] [] 231 sl (mem X Y) Q := by
  have he := fun (Q : List Value → Nat → Nat → ai_M → Prop) => rest_eq (G := G) (d := d + 1) (sl := sl) (Q := Q) (X := X) (Y := Y) hP6 hk.2.1
  cases e : evR (X 43) P 0
  · rw [e] at he hQ
    have e0 : b01 (false = true) = nI 0 := by decide
    rw [e0] at he
    simp (disch := omega) [w123_0, w123_1, w123_2, w123_5, w123_6, w123_9, x123_10_42, w123_13, w123_16, w123_17, x123_18_42, w123_21, rt123, rt123, aw_st, ai_cls, ai_len, ai_p, ai_sw, ai_m, ai_c, ai_at, ai_isI, ai_isJ, ai_isA, ai_ld, ai_1i, ai_2i, ai_2l, ai_cn, ai_j, ai_set, ai_set2, ai_nl, ai_rs, ai_sm, Value.category, hk0, hk1, lits, litb, litm, litm2, List.getElem?_cons_zero, List.getElem?_cons_succ, or_n0, bit_r, fi0, fi1, fi2, fi3, nI_toInt, nI_add, pk_mul, nI_leI, nI_ltI, nI_eq, ib_nI, nI_clamp, va_up_self, va_up_ne, va_up_up, va_up_comm, pk_us, pk_un, upd_up, updL_up, pk_uLs, pk_uLn, b01_1, b01_0, b01_1s, b01_0s, or_b, he]
    exact hQ X (fun _ _ _ _ => rfl) hk
  · rw [e] at he hQ
    have e1 : b01 (true = true) = nI 1 := by decide
    rw [e1] at he
    simp (disch := omega) [w123_0, w123_1, w123_2, w123_5, w123_6, w123_9, x123_10_42, w123_13, w123_16, w123_17, rt123, rt123, aw_st, ai_cls, ai_len, ai_p, ai_sw, ai_m, ai_c, ai_at, ai_isI, ai_isJ, ai_isA, ai_ld, ai_1i, ai_2i, ai_2l, ai_cn, ai_j, ai_set, ai_set2, ai_nl, ai_rs, ai_sm, Value.category, hk0, hk1, lits, litb, litm, litm2, List.getElem?_cons_zero, List.getElem?_cons_succ, or_n0, bit_r, fi0, fi1, fi2, fi3, nI_toInt, nI_add, pk_mul, nI_leI, nI_ltI, nI_eq, ib_nI, nI_clamp, va_up_self, va_up_ne, va_up_up, va_up_comm, pk_us, pk_un, upd_up, updL_up, pk_uLs, pk_uLn, b01_1, b01_0, b01_1s, b01_0s, or_b, he]
    rw [x123_18_42, if_pos (by decide)]
    refine tkeep_wp (X0 := X0) (S := S) (n := 0) (a := 0) (b := 0) (e := 0) hG hk (fun i hi => by omega) (by omega) hS (fun X' f k => ?_)
    simp (disch := omega) [w123_21, rt123, rt123, aw_st, ai_cls, ai_len, ai_p, ai_sw, ai_m, ai_c, ai_at, ai_isI, ai_isJ, ai_isA, ai_ld, ai_1i, ai_2i, ai_2l, ai_cn, ai_j, ai_set, ai_set2, ai_nl, ai_rs, ai_sm, Value.category, hk0, hk1, lits, litb, litm, litm2, List.getElem?_cons_zero, List.getElem?_cons_succ, or_n0, bit_r, fi0, fi1, fi2, fi3, nI_toInt, nI_add, pk_mul, nI_leI, nI_ltI, nI_eq, ib_nI, nI_clamp, va_up_self, va_up_ne, va_up_up, va_up_comm, pk_us, pk_un, upd_up, updL_up, pk_uLs, pk_uLn, b01_1, b01_0, b01_1s, b01_0s, or_b]
    exact hQ X' (fun j a _ e => f j a e) k
set_option maxHeartbeats 4000000 in
theorem choose_last {n a1 a2 fr : Nat} (hG : G.1 = false) (hP : 0 < P) (hP6 : P ≤ 6) (hn1 : 1 ≤ n) (hn : n ≤ 3) (hfr : fr ≤ 3 * (P * P)) (hk : KF X0 X P S) (hc : CH X (n - 1) a1 a2) (h1 : n = 1 → a1 = 0) (h2 : n ≤ 2 → a2 = 0) (hS : S.1 < 2000000) (hQ : ∀ X', TF X X' → (∀ i, i < n - 1 → X' 44 i = X 44 i) → KF X0 X' P (foldC (lastF P (X 43) (fun k => canT P (X 44) k (n - 1)) n a1 a2) (3 * (P * P) - fr) fr S) → Q [] 231 sl (mem X' Y)) : aw ET G (d + 3) 123 0 [some (.ref 42), some (.int (nI (n - 1))), some (.int (nI n)), some (.int (nI fr)), none] [] 231 sl (mem X Y) Q := by
  have hp := pp_le hP6
  have e1 : ¬ n - 1 = n := by omega
  have e2 : nI n - nI 1 = nI (n - 1) := pk_sub (by omega)
  simp (disch := omega) [w123_0, w123_1, w123_2, w123_5, w123_6, w123_9, x123_10_42, w123_13, w123_16, w123_17, x123_18_42, w123_21, w123_22, w123_23, w123_24, w123_25, w123_26, w123_29, w123_30, w123_31, w123_32, rt123, rt123, aw_st, ai_cls, ai_len, ai_p, ai_sw, ai_m, ai_c, ai_at, ai_isI, ai_isJ, ai_isA, ai_ld, ai_1i, ai_2i, ai_2l, ai_cn, ai_j, ai_set, ai_set2, ai_nl, ai_rs, ai_sm, Value.category, hk0, hk1, lits, litb, litm, litm2, List.getElem?_cons_zero, List.getElem?_cons_succ, or_n0, bit_r, fi0, fi1, fi2, fi3, nI_toInt, nI_add, pk_mul, nI_leI, nI_ltI, nI_eq, ib_nI, nI_clamp, va_up_self, va_up_ne, va_up_up, va_up_comm, pk_us, pk_un, upd_up, updL_up, pk_uLs, pk_uLn, b01_1, b01_0, b01_1s, b01_0s, or_b, e1, e2]
  rw [x123_33_42, if_pos (by decide)]
  refine last_wp hG hP hP6 hn1 hn hfr hk hc h1 h2 hS (fun X' f g k => ?_)
  simp (disch := omega) [w123_36, rt123, rt123, aw_st, ai_cls, ai_len, ai_p, ai_sw, ai_m, ai_c, ai_at, ai_isI, ai_isJ, ai_isA, ai_ld, ai_1i, ai_2i, ai_2l, ai_cn, ai_j, ai_set, ai_set2, ai_nl, ai_rs, ai_sm, Value.category, hk0, hk1, lits, litb, litm, litm2, List.getElem?_cons_zero, List.getElem?_cons_succ, or_n0, bit_r, fi0, fi1, fi2, fi3, nI_toInt, nI_add, pk_mul, nI_leI, nI_ltI, nI_eq, ib_nI, nI_clamp, va_up_self, va_up_ne, va_up_up, va_up_comm, pk_us, pk_un, upd_up, updL_up, pk_uLs, pk_uLn, b01_1, b01_0, b01_1s, b01_0s, or_b]
  exact hQ X' f g k
theorem choose_many {m n fr : Nat} (h : m + 2 ≤ n) (hn : n ≤ 3) (hQ : aw ET G d 123 40 [some (.ref 42), some (.int (nI m)), some (.int (nI n)), some (.int (nI fr)), some (.int (nI fr))] [] 231 sl (mem X Y) Q) : aw ET G d 123 0 [some (.ref 42), some (.int (nI m)), some (.int (nI n)), some (.int (nI fr)), none] [] 231 sl (mem X Y) Q := by
  have e1 : ¬ m = n := by omega
  have e2 : nI n - nI 1 = nI (n - 1) := pk_sub (by omega)
  have e3 : ¬ m = n - 1 := by omega
  simp (disch := omega) [w123_0, w123_1, w123_2, w123_22, w123_23, w123_24, w123_25, w123_26, w123_29, w123_30, w123_31, w123_32, x123_33_42, w123_36, w123_37, w123_38, rt123, rt123, aw_st, ai_cls, ai_len, ai_p, ai_sw, ai_m, ai_c, ai_at, ai_isI, ai_isJ, ai_isA, ai_ld, ai_1i, ai_2i, ai_2l, ai_cn, ai_j, ai_set, ai_set2, ai_nl, ai_rs, ai_sm, Value.category, hk0, hk1, lits, litb, litm, litm2, List.getElem?_cons_zero, List.getElem?_cons_succ, or_n0, bit_r, fi0, fi1, fi2, fi3, nI_toInt, nI_add, pk_mul, nI_leI, nI_ltI, nI_eq, ib_nI, nI_clamp, va_up_self, va_up_ne, va_up_up, va_up_comm, pk_us, pk_un, upd_up, updL_up, pk_uLs, pk_uLn, b01_1, b01_0, b01_1s, b01_0s, or_b, e1, e2, e3]
  exact hQ
theorem choose_1 (hG : G.1 = false) (hP : 0 < P) (hP6 : P ≤ 6) (hk : KF X0 X P S) (hS : S.1 < 2000000) (hQ : ∀ X', TF X X' → KF X0 X' P (foldC (k1F P (X 43)) (3 * (P * P)) 0 S) → Q [] 231 sl (mem X' Y)) : aw ET G (d + 3) 123 0 [some (.ref 42), some (.int (nI 0)), some (.int (nI 1)), some (.int (nI 0)), none] [] 231 sl (mem X Y) Q := by
  refine choose_last (n := 1) (a1 := 0) (a2 := 0) (fr := 0) hG hP hP6 (by omega) (by omega) (by omega) hk ⟨fun h => by omega, fun h => by omega⟩ (fun _ => rfl) (fun _ => rfl) hS (fun X' f _ k => hQ X' f ?_)
  rw [Nat.sub_zero] at k
  have : ∀ j S, lastF P (X 43) (fun k => canT P (X 44) k (1 - 1)) 1 0 0 j S = k1F P (X 43) j S := by
    intro j S
    unfold lastF k1F
    dsimp only
    rw [show 1 - 1 = 0 by omega]
    simp only [canT_0]
    rfl
  rw [foldC_cg this] at k
  exact k
theorem choose_2 (hG : G.1 = false) (hP : 0 < P) (hP6 : P ≤ 6) (hk : KF X0 X P S) (hS : S.1 < 1000) (hQ : ∀ X', TF X X' → KF X0 X' P (foldC (i2F P (X 43)) (3 * (P * P)) 0 S) → Q [] 231 sl (mem X' Y)) : aw ET G (d + 4) 123 0 [some (.ref 42), some (.int (nI 0)), some (.int (nI 2)), some (.int (nI 0)), none] [] 231 sl (mem X Y) Q := by
  have hp := pp_le hP6
  refine choose_many (by omega) (by omega) ?_
  have hm : 3 * (P * P) * 108 ≤ 108 * 108 := Nat.mul_le_mul_right 108 (by omega)
  refine tchoose_loop (d := d + 2) (X0 := X0) (m := 0) (n := 2) (B := 108) (a1 := 0) (a2 := 0) (b := X 43) (f0 := X 44) (F' := fun i S => foldC (k2F P (buC (X 43) P i) i) (3 * (P * P) - (i + 1)) (i + 1) S) hP hP6 (by omega) (by omega) (fun i S => ?_) (fun i hi => by omega) ?_ (3 * (P * P)) 0 S X Q (by omega) hk rfl (fun i hi => rfl) (by omega) (fun X' f _ k => hQ X' f ?_)
  · have := foldC_le (F := k2F P (buC (X 43) P i) i) (B := 1) (fun k S => k2F_le) (3 * (P * P) - (i + 1)) (i + 1) S
    (try dsimp only)
    omega
  · intro t S X1 Q ht hct h43 h44 _ hk1 hS1 hQ1
    refine choose_last (n := 2) (a1 := t) (a2 := 0) (fr := t + 1) hG hP hP6 (by omega) (by omega) (by omega) hk1 ⟨fun _ => ⟨h44, by omega⟩, fun h => by omega⟩ (fun h => by omega) (fun _ => rfl) (by omega) (fun X' f g k => hQ1 X' f g ?_)
    have : ∀ j S, lastF P (X1 43) (fun k => canT P (X1 44) k (2 - 1)) 2 t 0 j S = k2F P (buC (X 43) P t) t j S := by
      intro j S
      unfold lastF k2F
      dsimp only
      rw [show 2 - 1 = 1 by omega]
      simp only [canT_1 h44 (show t < 108 by omega), h43]
      rfl
    rw [foldC_cg this] at k
    exact k
  · have : ∀ j S, (if canT P (X 44) j 0 = true then foldC (k2F P (buC (X 43) P j) j) (3 * (P * P) - (j + 1)) (j + 1) S else S) = i2F P (X 43) j S := by
      intro j S
      simp only [canT_0]
      rfl
    rw [foldC_cg this] at k
    exact k
theorem choose_3 (hG : G.1 = false) (hP : 0 < P) (hP6 : P ≤ 6) (hk : KF X0 X P S) (hS : S.1 < 30000) (hQ : ∀ X', TF X X' → KF X0 X' P (foldC (i3F P (X 43)) (3 * (P * P)) 0 S) → Q [] 231 sl (mem X' Y)) : aw ET G (d + 5) 123 0 [some (.ref 42), some (.int (nI 0)), some (.int (nI 3)), some (.int (nI 0)), none] [] 231 sl (mem X Y) Q := by
  have hp := pp_le hP6
  refine choose_many (by omega) (by omega) ?_
  have hm : 3 * (P * P) * 11664 ≤ 108 * 11664 := Nat.mul_le_mul_right 11664 (by omega)
  refine tchoose_loop (d := d + 3) (X0 := X0) (m := 0) (n := 3) (B := 11664) (a1 := 0) (a2 := 0) (b := X 43) (f0 := X 44) (F' := fun i S => foldC (j3F P (buC (X 43) P i) i) (3 * (P * P) - (i + 1)) (i + 1) S) hP hP6 (by omega) (by omega) (fun i S => ?_) (fun i hi => by omega) ?_ (3 * (P * P)) 0 S X Q (by omega) hk rfl (fun i hi => rfl) (by omega) (fun X' f _ k => hQ X' f ?_)
  · have := foldC_le (F := j3F P (buC (X 43) P i) i) (B := 108) (fun k S => j3F_le hP6) (3 * (P * P) - (i + 1)) (i + 1) S
    have h2 : (3 * (P * P) - (i + 1)) * 108 ≤ 108 * 108 := Nat.mul_le_mul_right 108 (by omega)
    (try dsimp only)
    omega
  · intro t S X1 Q ht hct h43 h44 _ hk1 hS1 hQ1
    refine choose_many (by omega) (by omega) ?_
    have hm2 : (3 * (P * P) - (t + 1)) * 108 ≤ 108 * 108 := Nat.mul_le_mul_right 108 (by omega)
    refine tchoose_loop (d := d + 2) (X0 := X0) (m := 1) (n := 3) (B := 108) (a1 := t) (a2 := 0) (b := X1 43) (f0 := X1 44) (F' := fun j S => foldC (k3F P (buC (X1 43) P j) t j) (3 * (P * P) - (j + 1)) (j + 1) S) hP hP6 (by omega) (by omega) (fun i S => ?_) (fun i hi => ⟨t, by omega, by rw [show i = 0 by omega]; exact h44⟩) ?_ (3 * (P * P) - (t + 1)) (t + 1) S X1 Q (by omega) hk1 rfl (fun i hi => rfl) (by omega) (fun X' f g k => hQ1 X' f g ?_)
    · have := foldC_le (F := k3F P (buC (X1 43) P i) t i) (B := 1) (fun k S => k3F_le) (3 * (P * P) - (i + 1)) (i + 1) S
      (try dsimp only)
      omega
    · intro t2 S X2 Q ht2 hct2 g43 g44 gl hk2 hS2 hQ2
      have g0 : X2 44 0 = nI t := by rw [gl 0 (by omega)]; exact h44
      refine choose_last (n := 3) (a1 := t) (a2 := t2) (fr := t2 + 1) hG hP hP6 (by omega) (by omega) (by omega) hk2 ⟨fun _ => ⟨g0, by omega⟩, fun _ => ⟨g44, by omega⟩⟩ (fun h => by omega) (fun h => by omega) (by omega) (fun X' f g k => hQ2 X' f g ?_)
      have : ∀ j S, lastF P (X2 43) (fun k => canT P (X2 44) k (3 - 1)) 3 t t2 j S = k3F P (buC (X1 43) P t2) t t2 j S := by
        intro j S
        unfold lastF k3F
        dsimp only
        rw [show 3 - 1 = 2 by omega]
        simp only [canT_2 g0 (show t < 108 by omega) g44 (show t2 < 108 by omega), g43]
        rfl
      rw [foldC_cg this] at k
      exact k
    · have : ∀ j S, (if canT P (X1 44) j 1 = true then foldC (k3F P (buC (X1 43) P j) t j) (3 * (P * P) - (j + 1)) (j + 1) S else S) = j3F P (buC (X 43) P t) t j S := by
        intro j S
        simp only [canT_1 h44 (show t < 108 by omega), h43]
        rfl
      rw [foldC_cg this] at k
      exact k
  · have : ∀ j S, (if canT P (X 44) j 0 = true then foldC (j3F P (buC (X 43) P j) j) (3 * (P * P) - (j + 1)) (j + 1) S else S) = i3F P (X 43) j S := by
      intro j S
      simp only [canT_0]
      rfl
    rw [foldC_cg this] at k
    exact k
/-- balances from the tape -/
def balT (t : Nat → Nat) : Nat → Int32 := fun p => nI (t p) - nI 100
set_option maxHeartbeats 4000000 in
theorem sets_fill {t : Nat → Nat} (hP6 : P ≤ 6) (hT : TB8 (X 1) t) : ∀ (r p : Nat) (g : Nat → Int32) (X : mX), p + r = P → X 1 = X0 1 → X 42 5 = nI P → TB8 (X0 1) t → X 43 = g → (∀ q, q < p → g q = balT t q) → (∀ g', (∀ q, q < P → g' q = balT t q) → aw ET G d 122 47 [some (.ref 42), some (.ref 1), some (.int (nI P)), some (.int (nI P))] [] 231 sl (mem (va_up X 43 g') Y) Q) → aw ET G d 122 17 [some (.ref 42), some (.ref 1), some (.int (nI P)), some (.int (nI p))] [] 231 sl (mem X Y) Q := by
  intro r
  induction r with
  | zero =>
    intro p g X hp h1 h5 hT0 hg hq hQ
    have : p = P := by omega
    subst this
    rw [w122_17]
    have := hQ g hq
    rw [← hg, va_id] at this
    simp (disch := omega) [w122_18, x122_19_42, w122_22, rt122, rt122, aw_st, ai_cls, ai_len, ai_p, ai_sw, ai_m, ai_c, ai_at, ai_isI, ai_isJ, ai_isA, ai_ld, ai_1i, ai_2i, ai_2l, ai_cn, ai_j, ai_set, ai_set2, ai_nl, ai_rs, ai_sm, Value.category, hk0, hk1, lits, litb, litm, litm2, List.getElem?_cons_zero, List.getElem?_cons_succ, or_n0, bit_r, fi0, fi1, fi2, fi3, nI_toInt, nI_add, pk_mul, nI_leI, nI_ltI, nI_eq, ib_nI, nI_clamp, va_up_self, va_up_ne, va_up_up, va_up_comm, pk_us, pk_un, upd_up, updL_up, pk_uLs, pk_uLn, b01_1, b01_0, b01_1s, b01_0s, or_b, h5]
    exact this
  | succ r ih =>
    intro p g X hp h1 h5 hT0 hg hq hQ
    obtain ⟨t1, t2⟩ := hT0 p (by omega)
    rw [← h1] at t2
    have t3 := bI_and t1
    rw [w122_17]
    simp (disch := omega) [w122_18, x122_19_42, w122_22, w122_25, x122_26_42, w122_29, w122_30, w122_31, w122_32, w122_33, w122_36, w122_37, w122_39, w122_40, w122_41, w122_44, rt122, rt122, aw_st, ai_cls, ai_len, ai_p, ai_sw, ai_m, ai_c, ai_at, ai_isI, ai_isJ, ai_isA, ai_ld, ai_1i, ai_2i, ai_2l, ai_cn, ai_j, ai_set, ai_set2, ai_nl, ai_rs, ai_sm, Value.category, hk0, hk1, lits, litb, litm, litm2, List.getElem?_cons_zero, List.getElem?_cons_succ, or_n0, bit_r, fi0, fi1, fi2, fi3, nI_toInt, nI_add, pk_mul, nI_leI, nI_ltI, nI_eq, ib_nI, nI_clamp, va_up_self, va_up_ne, va_up_up, va_up_comm, pk_us, pk_un, upd_up, updL_up, pk_uLs, pk_uLn, b01_1, b01_0, b01_1s, b01_0s, or_b, h5, mm1, mm43, mu43, hg, t2, t3, show ¬ P ≤ p by omega]
    refine ih (p + 1) _ _ (by omega) (by rw [va_up_ne _ _ (by omega)]; exact h1) (by rw [va_up_ne _ _ (by omega)]; exact h5) hT0 (va_up_self _ _ _) (fun q hq2 => ?_) (fun g' hg' => by rw [va_up_up]; exact hQ g' hg')
    by_cases e : q = p
    · rw [e, pk_us]; rfl
    · rw [pk_un e]; exact hq q (by omega)
end TTW
