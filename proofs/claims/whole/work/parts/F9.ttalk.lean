/-! TALKED: the class, all sets -/
section TTV
variable {G : ai_G} {d sl : Nat} {Y : mY} {P : Nat}
theorem canT_0 {f : Nat → Int32} {k : Nat} : canT P f k 0 = vlC P k := by
  unfold canT vlC
  simp [noneT]
theorem canT_1 {f : Nat → Int32} {k i : Nat} (h : f 0 = nI i) (hi : i < 108) : canT P f k 1 = (vlC P k && !sameT P k i) := by
  unfold canT vlC
  simp only [noneT, h, iN_nI (show i < 2 ^ 31 by omega), Bool.and_true]
theorem canT_2 {f : Nat → Int32} {k i j : Nat} (h : f 0 = nI i) (hi : i < 108) (h2 : f 1 = nI j) (hj : j < 108) : canT P f k 2 = (vlC P k && !sameT P k i && !sameT P k j) := by
  unfold canT vlC
  simp only [noneT, h, h2, iN_nI (show i < 2 ^ 31 by omega), iN_nI (show j < 2 ^ 31 by omega), Bool.and_true, Bool.and_assoc]
theorem foldC_cg {F F' : Nat → tS → tS} (h : ∀ k S, F k S = F' k S) : ∀ r k S, foldC F r k S = foldC F' r k S := by
  have : F = F' := by funext k S; exact h k S
  intro r k S
  rw [this]
def tkU (b : Nat → Int32) (P c : Nat) (v : Int32) : Nat → Int32 := upd (upd b (cdH P c) (b (cdH P c) - nI (c % 3 + 1) * v)) (cdW P c) (upd b (cdH P c) (b (cdH P c) - nI (c % 3 + 1) * v) (cdW P c) + nI (c % 3 + 1) * v)
theorem tkU_1 {b : Nat → Int32} {c : Nat} : tkU b P c (nI 1) = buC b P c := by
  unfold tkU buC balU
  rw [Int32.mul_comm (nI (c % 3 + 1))]
theorem neg_one_mul' (x : Int32) : x * mi1 = -x := by
  show x * (-1) = -x
  rw [Int32.mul_neg, Int32.mul_one]
theorem tkU_m {b : Nat → Int32} {c : Nat} (h : ¬ cdH P c = cdW P c) : tkU (buC b P c) P c mi1 = b := by
  funext j
  unfold tkU
  rw [neg_one_mul']
  by_cases e1 : j = cdW P c
  · rw [e1, pk_us, pk_un (fun e => h e.symm), buC_w h, Int32.add_neg_eq_sub, add_sub_same]
  · rw [pk_un e1]
    by_cases e2 : j = cdH P c
    · rw [e2, pk_us, buC_h h, Int32.sub_neg, Int32.sub_add_cancel]
    · rw [pk_un e2, buC_o e2 e1]
theorem NP (P : Nat) : P * P * 3 = 3 * (P * P) := Nat.mul_comm _ _
set_option maxHeartbeats 8000000 in
theorem tchoose_loop {X0 : mX} {m n B a1 a2 fr : Nat} {b f0 : Nat → Int32} {F' : Nat → tS → tS} (hP : 0 < P) (hP6 : P ≤ 6) (hm : m + 2 ≤ n) (hn : n ≤ 3) (hF : ∀ k S, (F' k S).1 ≤ S.1 + B) (hc0 : ∀ i, i < m → ∃ q, q < 108 ∧ f0 i = nI q)
    (inner : ∀ (t : Nat) (S : tS) (X : mX) (Q : List Value → Nat → Nat → ai_M → Prop), t < 3 * (P * P) → canT P f0 t m = true → X 43 = buC b P t → X 44 m = nI t → (∀ i, i < m → X 44 i = f0 i) → KF X0 X P S → S.1 + B ≤ 1900000 → (∀ X', TF X X' → (∀ i, i < m + 1 → X' 44 i = X 44 i) → KF X0 X' P (F' t S) → Q [] 231 sl (mem X' Y)) → aw ET G (d + 1) 123 0 [some (.ref 42), some (.int (nI (m + 1))), some (.int (nI n)), some (.int (nI (t + 1))), none] [] 231 sl (mem X Y) Q) :
    ∀ (r t : Nat) (S : tS) (X : mX) (Q : List Value → Nat → Nat → ai_M → Prop), t + r = 3 * (P * P) → KF X0 X P S → X 43 = b → (∀ i, i < m → X 44 i = f0 i) → S.1 + r * B ≤ 1900000 → (∀ X', TF X X' → (∀ i, i < m → X' 44 i = X 44 i) → KF X0 X' P (foldC (fun k S => if canT P f0 k m = true then F' k S else S) r t S) → Q [] 231 sl (mem X' Y)) → aw ET G (d + 2) 123 40 [some (.ref 42), some (.int (nI m)), some (.int (nI n)), some (.int (nI fr)), some (.int (nI t))] [] 231 sl (mem X Y) Q := by
  have hp := pp_le hP6
  intro r
  induction r with
  | zero =>
    intro t S X Q ht hk h43 h44 hS hQ
    have : t = 3 * (P * P) := by omega
    subst this
    rw [w123_40]
    have := hQ X (fun _ _ _ _ => rfl) (fun _ _ => rfl) hk
    simp (disch := omega) [w123_42, x123_43_42, w123_46, x123_47_42, w123_50, w123_51, w123_52, w123_53, w123_106, rt123, rt123, aw_st, ai_cls, ai_len, ai_p, ai_sw, ai_m, ai_c, ai_at, ai_isI, ai_isJ, ai_isA, ai_ld, ai_1i, ai_2i, ai_2l, ai_cn, ai_j, ai_set, ai_set2, ai_nl, ai_rs, ai_sm, Value.category, hk0, hk1, lits, litb, litm, litm2, List.getElem?_cons_zero, List.getElem?_cons_succ, or_n0, bit_r, fi0, fi1, fi2, fi3, nI_toInt, nI_add, pk_mul, nI_leI, nI_ltI, nI_eq, ib_nI, nI_clamp, va_up_self, va_up_ne, va_up_up, va_up_comm, pk_us, pk_un, upd_up, updL_up, pk_uLs, pk_uLn, b01_1, b01_0, b01_1s, b01_0s, or_b, hk.2.1, NP]
    exact this
  | succ r ih =>
    intro t S X Q ht hk h43 h44 hS hQ
    have hS1 : S.1 + r * B + B ≤ 1900000 := by rw [Nat.succ_mul] at hS; omega
    have hca := fun (Q : List Value → Nat → Nat → ai_M → Prop) => can_eq (G := G) (d := d) (sl := sl) (Q := Q) (X := X) (Y := Y) (c := t) (m := m) hP hP6 hk.2.1 (by omega) (by omega) (fun i hi => by rw [h44 i hi]; exact hc0 i hi)
    rw [canT_cg h44] at hca
    have hno : ¬ 3 * (P * P) ≤ t := by omega
    rw [w123_40]
    cases z : canT P f0 t m
    · rw [z] at hca
      have e0 : b01 (false = true) = nI 0 := by decide
      rw [e0] at hca
      simp (disch := omega) [w123_42, x123_43_42, w123_46, x123_47_42, w123_50, w123_51, w123_52, w123_53, w123_56, w123_57, w123_59, x123_60_42, w123_63, w123_100, w123_103, rt123, rt123, aw_st, ai_cls, ai_len, ai_p, ai_sw, ai_m, ai_c, ai_at, ai_isI, ai_isJ, ai_isA, ai_ld, ai_1i, ai_2i, ai_2l, ai_cn, ai_j, ai_set, ai_set2, ai_nl, ai_rs, ai_sm, Value.category, hk0, hk1, lits, litb, litm, litm2, List.getElem?_cons_zero, List.getElem?_cons_succ, or_n0, bit_r, fi0, fi1, fi2, fi3, nI_toInt, nI_add, pk_mul, nI_leI, nI_ltI, nI_eq, ib_nI, nI_clamp, va_up_self, va_up_ne, va_up_up, va_up_comm, pk_us, pk_un, upd_up, updL_up, pk_uLs, pk_uLn, b01_1, b01_0, b01_1s, b01_0s, or_b, hk.2.1, NP, hno, hca]
      refine ih (t + 1) S X Q (by omega) hk h43 h44 (by omega) (fun X' f g k => hQ X' f g ?_)
      show KF X0 X' P (foldC _ r (t + 1) (if canT P f0 t m = true then F' t S else S))
      rw [z, if_neg (by decide)]
      exact k
    · rw [z] at hca
      have e1 : b01 (true = true) = nI 1 := by decide
      rw [e1] at hca
      have hv : ¬ cdH P t = cdW P t := of_decide_eq_true (canT_v z)
      have hH := cdH_lt hP (show t < 3 * (P * P) by omega)
      have hta := fun (Q : List Value → Nat → Nat → ai_M → Prop) => take_eq (G := G) (d := d) (sl := sl) (Q := Q) (X := va_up X 44 (upd (X 44) m (nI t))) (Y := Y) (c := t) (v := nI 1) hP hP6 (by rw [va_up_ne _ _ (by omega)]; exact hk.2.1) (by omega) (by omega)
      rw [va_up_ne _ _ (by omega), h43] at hta
      have e43 := tkU_1 (P := P) (b := b) (c := t)
      unfold tkU at e43
      rw [e43] at hta
      simp (disch := omega) [w123_42, x123_43_42, w123_46, x123_47_42, w123_50, w123_51, w123_52, w123_53, w123_56, w123_57, w123_59, x123_60_42, w123_63, w123_66, x123_67_42, w123_70, w123_71, w123_73, w123_74, w123_75, w123_77, x123_78_42, rt123, rt123, aw_st, ai_cls, ai_len, ai_p, ai_sw, ai_m, ai_c, ai_at, ai_isI, ai_isJ, ai_isA, ai_ld, ai_1i, ai_2i, ai_2l, ai_cn, ai_j, ai_set, ai_set2, ai_nl, ai_rs, ai_sm, Value.category, hk0, hk1, lits, litb, litm, litm2, List.getElem?_cons_zero, List.getElem?_cons_succ, or_n0, bit_r, fi0, fi1, fi2, fi3, nI_toInt, nI_add, pk_mul, nI_leI, nI_ltI, nI_eq, ib_nI, nI_clamp, va_up_self, va_up_ne, va_up_up, va_up_comm, pk_us, pk_un, upd_up, updL_up, pk_uLs, pk_uLn, b01_1, b01_0, b01_1s, b01_0s, or_b, hk.2.1, NP, hno, hca, mm44, mu44]
      rw [va_up_comm _ _ _ _ _ (by omega)] at hta
      simp (disch := omega) [w123_42, x123_43_42, w123_46, x123_47_42, w123_50, w123_51, w123_52, w123_53, w123_56, w123_57, w123_59, x123_60_42, w123_63, w123_66, x123_67_42, w123_70, w123_71, w123_73, w123_74, w123_75, w123_77, x123_78_42, w123_81, w123_82, w123_83, w123_84, w123_85, w123_86, w123_88, w123_89, rt123, rt123, aw_st, ai_cls, ai_len, ai_p, ai_sw, ai_m, ai_c, ai_at, ai_isI, ai_isJ, ai_isA, ai_ld, ai_1i, ai_2i, ai_2l, ai_cn, ai_j, ai_set, ai_set2, ai_nl, ai_rs, ai_sm, Value.category, hk0, hk1, lits, litb, litm, litm2, List.getElem?_cons_zero, List.getElem?_cons_succ, or_n0, bit_r, fi0, fi1, fi2, fi3, nI_toInt, nI_add, pk_mul, nI_leI, nI_ltI, nI_eq, ib_nI, nI_clamp, va_up_self, va_up_ne, va_up_up, va_up_comm, pk_us, pk_un, upd_up, updL_up, pk_uLs, pk_uLn, b01_1, b01_0, b01_1s, b01_0s, or_b, hta]
      rw [x123_90_42, if_pos (by decide)]
      have hcm : va_up (va_up X 43 (buC b P t)) 44 (upd (X 44) m (nI t)) 42 = X 42 := by rw [va_up_ne _ _ (by omega), va_up_ne _ _ (by omega)]
      refine inner t S _ _ (by omega) z (by rw [va_up_ne _ _ (by omega), va_up_self]) (by rw [va_up_self, pk_us]) (fun i hi => by rw [va_up_self, pk_un (by omega)]; exact h44 i hi) (KF_cg hk hcm (by rw [va_up_ne _ _ (by omega), va_up_ne _ _ (by omega)])) (by omega) (fun X1 f1 g1 k1 => ?_)
      have x43 : X1 43 = buC b P t := by rw [f1 43 (by omega) (by omega) (by omega), va_up_ne _ _ (by omega), va_up_self]
      have htb := fun (Q : List Value → Nat → Nat → ai_M → Prop) => take_eq (G := G) (d := d) (sl := sl) (Q := Q) (X := X1) (Y := Y) (c := t) (v := mi1) hP hP6 k1.2.1 (by omega) (by omega)
      have e43' := tkU_m (P := P) (b := b) (c := t) hv
      unfold tkU at e43'
      rw [x43, e43'] at htb
      simp (disch := omega) [w123_93, w123_94, w123_96, x123_97_42, w123_100, w123_103, rt123, rt123, aw_st, ai_cls, ai_len, ai_p, ai_sw, ai_m, ai_c, ai_at, ai_isI, ai_isJ, ai_isA, ai_ld, ai_1i, ai_2i, ai_2l, ai_cn, ai_j, ai_set, ai_set2, ai_nl, ai_rs, ai_sm, Value.category, hk0, hk1, lits, litb, litm, litm2, List.getElem?_cons_zero, List.getElem?_cons_succ, or_n0, bit_r, fi0, fi1, fi2, fi3, nI_toInt, nI_add, pk_mul, nI_leI, nI_ltI, nI_eq, ib_nI, nI_clamp, va_up_self, va_up_ne, va_up_up, va_up_comm, pk_us, pk_un, upd_up, updL_up, pk_uLs, pk_uLn, b01_1, b01_0, b01_1s, b01_0s, or_b, htb]
      have hb := hF t S
      refine ih (t + 1) (F' t S) _ Q (by omega) (KF_cg k1 (va_up_ne _ _ (by omega)) (va_up_ne _ _ (by omega))) (va_up_self _ _ _) (fun i hi => ?_) (by omega) (fun X' f g k => hQ X' (fun j a c e => ?_) (fun i hi => ?_) ?_)
      · rw [va_up_ne _ _ (by omega), g1 i (by omega), va_up_self, pk_un (by omega)]; exact h44 i hi
      · rw [f j a c e]
        by_cases q : j = 43
        · rw [q, va_up_self, h43]
        · rw [va_up_ne _ _ q, f1 j a c e, va_up_ne _ _ c, va_up_ne _ _ q]
      · rw [g i hi, va_up_ne _ _ (by omega), g1 i (by omega), va_up_self, pk_un (by omega)]
      · show KF X0 X' P (foldC _ r (t + 1) (if canT P f0 t m = true then F' t S else S))
        rw [z, if_pos rfl]
        exact k
end TTV
