/-! EarTown.book -/
section BKE
variable {G : ai_G} {d sl : Nat} {Q : List Value → Nat → Nat → ai_M → Prop} {Y : mY} {X : mX} {P S m : Nat} {B : BL} {l l' k : Nat → Nat → Int32} {F : Nat → Int32} {nm : Nat → List Nat} {t : Nat → Nat} {n : Nat}
abbrev LR : Type := Int32 × Int32 × Nat × (Nat → Nat → Int32) × Int32 × Int32
def B00 : BL := fun _ => (0, 0, 0, 0)
/-- what a BOOK's text leaves as it was -/
def FK (X : mX) (Y : mY) (X' : mX) (Y' : mY) : Prop := (∀ k, ¬ k = 0 → ¬ k = 2 → ¬ (30 ≤ k ∧ k ≤ 34) → X' k = X k) ∧ (∀ j, ¬ j = 15 → ¬ j = 16 → X' 0 j = X 0 j) ∧ X' 0 15 = nI 0 ∧ (∀ k, ¬ k = 2 → Y' k = Y k)
theorem liveR_q : ∀ (r q : Nat) (l : Nat → Nat → Int32) (h g : Int32), q ≤ (liveR k P B r q l h g).2.2.1 ∧ (liveR k P B r q l h g).2.2.1 ≤ q + r := by
  intro r
  induction r with
  | zero => intro q l h g; exact ⟨Nat.le_refl _, Nat.le_refl _⟩
  | succ r ih =>
    intro q l h g
    unfold liveR
    split
    · have := ih (q + 1) (liveS k P (B q) l).2.1 (h + (liveS k P (B q) l).2.2.1) (g + (liveS k P (B q) l).2.2.2)
      omega
    · exact ⟨Nat.le_refl _, Nat.le_add_right _ _⟩
theorem lv_eq {X' : mX} {o : Nat} (h : ∀ k, o ≤ k → k ≤ o + 8 → X' k = X k) : lv X' o = lv X o := by
  funext j i
  unfold lv
  split
  · rw [h _ (by omega) (by omega)]
  · rw [h _ (by omega) (by omega)]
theorem cv_eq {X' : mX} {c : Nat} (h : ∀ k, c ≤ k → k ≤ c + 7 → X' k = X k) : cv X' c = cv X c := by
  funext j i
  unfold cv
  split
  · rw [h _ (by omega) (by omega)]
  · rw [h _ (by omega) (by omega)]
def bkT (F' : Nat → Int32) (r : LR) : Prop := F' 5 = nI 1 ∧ F' 6 = r.2.1 ∧ F' 7 = nI r.2.2.1 ∧ F' 8 = r.2.2.2.2.1 ∧ F' 9 = r.2.2.2.2.2
set_option maxHeartbeats 4000000 in
theorem tbook_bad {x : Int32} (h : inI (nI 0) (nI 1) x = false) : aw ET G d 143 0 [some (.ref 0), some (.int x), none, none] [] 231 sl (mem X Y) Q = Q [.int mi1000] 231 sl (mem X Y) := by
  unfold inI at h
  have h := of_decide_eq_false h
  by_cases c : x < nI 0
  · simp (disch := omega) [w143_0, w143_1, w143_4, w143_5, w143_6, w143_9, w143_12, rt143, aw_st, ai_cls, ai_len, ai_p, ai_sw, ai_m, ai_c, ai_at, ai_isI, ai_isJ, ai_isA, ai_ld, ai_1i, ai_2i, ai_2l, ai_cn, ai_j, ai_set, ai_set2, ai_nl, ai_rs, ai_sm, Value.category, hk0, hk1, lits, litb, litm, litm2, List.getElem?_cons_zero, List.getElem?_cons_succ, or_n0, bit_r, fi0, fi1, fi2, fi3, nI_toInt, nI_add, pk_mul, nI_leI, nI_ltI, nI_eq, pk_sub, ib_nI, nI_clamp, va_up_self, va_up_ne, va_up_up, va_up_comm, pk_us, pk_un, upd_up, updL_up, pk_uLs, pk_uLn, b01_1, b01_0, b01_1s, b01_0s, or_b, c]
  · have c2 : nI 1 < x := Int32.not_le.mp (fun q => h ⟨Int32.not_lt.mp c, q⟩)
    simp (disch := omega) [w143_0, w143_1, w143_4, w143_5, w143_6, w143_9, w143_12, rt143, aw_st, ai_cls, ai_len, ai_p, ai_sw, ai_m, ai_c, ai_at, ai_isI, ai_isJ, ai_isA, ai_ld, ai_1i, ai_2i, ai_2l, ai_cn, ai_j, ai_set, ai_set2, ai_nl, ai_rs, ai_sm, Value.category, hk0, hk1, lits, litb, litm, litm2, List.getElem?_cons_zero, List.getElem?_cons_succ, or_n0, bit_r, fi0, fi1, fi2, fi3, nI_toInt, nI_add, pk_mul, nI_leI, nI_ltI, nI_eq, pk_sub, ib_nI, nI_clamp, va_up_self, va_up_ne, va_up_up, va_up_comm, pk_us, pk_un, upd_up, updL_up, pk_uLs, pk_uLn, b01_1, b01_0, b01_1s, b01_0s, or_b, c, c2, Int32.not_le.mpr c2]
set_option maxHeartbeats 8000000 in
theorem tbook_0 (hG : G.1 = false) (hT : TB8 (X 1) t) (h15 : X 0 15 = nI n) (hn : n ≤ 940) (ht : TN X Y nm P S) {old m0 : Nat} (p1 : X 79 1 = nI old) (p2 : X 79 2 = nI m0) (hold : old < 8) (hm0 : m0 ≤ 8) (hQ1 : ∀ e j, sBook (t, n, 500) nm P S 31 0 0 B00 = .inl (e, j) → ∀ X' Y', FK X Y X' Y' → X' 0 16 = nI e → (∀ j, ¬ j = 4 → X' 30 j = X 30 j) → Q [.int (mi2 - nI (cP (t, n, 500) j))] 231 sl (mem X' Y')) (hQ2 : ∀ m B, sBook (t, n, 500) nm P S 31 0 0 B00 = .inr (m, B) → m ≤ 30 → BB B m P S → ∀ X' Y' l2 F', FK X Y X' Y' → X' 0 16 = nI 0 → LQ l2 (liveR (cv X 47) P B m 0 (cpyL (lv X 70) (lv X 61)) (nI 0) (nI 0)).2.2.2.1 → bkT F' (liveR (cv X 47) P B m 0 (cpyL (lv X 70) (lv X 61)) (nI 0) (nI 0)) → Q [.int (liveR (cv X 47) P B m 0 (cpyL (lv X 70) (lv X 61)) (nI 0) (nI 0)).1] 231 sl (mem (plv (va_up X' 30 F') 70 l2) Y')) : aw ET G (d + 13) 143 0 [some (.ref 0), some (.int (nI 0)), none, none] [] 231 sl (mem X Y) Q := by
  simp (disch := omega) [w143_0, w143_1, w143_4, w143_5, w143_6, w143_9, w143_12, w143_13, w143_14, x143_17_0, rt143, aw_st, ai_cls, ai_len, ai_p, ai_sw, ai_m, ai_c, ai_at, ai_isI, ai_isJ, ai_isA, ai_ld, ai_1i, ai_2i, ai_2l, ai_cn, ai_j, ai_set, ai_set2, ai_nl, ai_rs, ai_sm, Value.category, hk0, hk1, lits, litb, litm, litm2, List.getElem?_cons_zero, List.getElem?_cons_succ, or_n0, bit_r, fi0, fi1, fi2, fi3, nI_toInt, nI_add, pk_mul, nI_leI, nI_ltI, nI_eq, pk_sub, ib_nI, nI_clamp, va_up_self, va_up_ne, va_up_up, va_up_comm, pk_us, pk_un, upd_up, updL_up, pk_uLs, pk_uLn, b01_1, b01_0, b01_1s, b01_0s, or_b]
  refine openTape_wp (d := d + 8) hT h15 hn (by omega) (fun f1 g1 r1 => ?_)
  simp (disch := omega) [w143_20, x143_21_0, w143_24, x143_25_0, w143_28, x143_29_0, x143_32_55, x143_32_5, x143_35_30, rt143, w144_0, w144_1, x144_2, w144_5, w144_6, rt144, aw_st, ai_cls, ai_len, ai_p, ai_sw, ai_m, ai_c, ai_at, ai_isI, ai_isJ, ai_isA, ai_ld, ai_1i, ai_2i, ai_2l, ai_cn, ai_j, ai_set, ai_set2, ai_nl, ai_rs, ai_sm, Value.category, hk0, hk1, lits, litb, litm, litm2, List.getElem?_cons_zero, List.getElem?_cons_succ, or_n0, bit_r, fi0, fi1, fi2, fi3, nI_toInt, nI_add, pk_mul, nI_leI, nI_ltI, nI_eq, pk_sub, ib_nI, nI_clamp, va_up_self, va_up_ne, va_up_up, va_up_comm, pk_us, pk_un, upd_up, updL_up, pk_uLs, pk_uLn, b01_1, b01_0, b01_1s, b01_0s, or_b]
  have hZ0 : ∀ k, ¬ k = 0 → ¬ k = 2 → ¬ k = 30 → va_up (va_up (va_up X 0 (upd (X 0) 15 (nI 0))) 2 f1) 30 (upd (X 30) 4 (nI 0)) k = X k := fun k a b c => by rw [va_up_ne _ _ c, va_up_ne _ _ b, va_up_ne _ _ a]
  have hZ2 : va_up (va_up (va_up X 0 (upd (X 0) 15 (nI 0))) 2 f1) 30 (upd (X 30) 4 (nI 0)) 2 = f1 := by simp [va_up]
  have hZz : va_up (va_up (va_up X 0 (upd (X 0) 15 (nI 0))) 2 f1) 30 (upd (X 30) 4 (nI 0)) 0 = upd (X 0) 15 (nI 0) := by simp [va_up]
  have hZ3 : va_up (va_up (va_up X 0 (upd (X 0) 15 (nI 0))) 2 f1) 30 (upd (X 30) 4 (nI 0)) 30 = upd (X 30) 4 (nI 0) := by simp [va_up]
  have hW0 : ∀ k, ¬ k = 2 → va_up Y 2 g1 k = Y k := fun k a => va_up_ne _ _ a
  have hW2 : va_up Y 2 g1 2 = g1 := va_up_self _ _ _
  generalize va_up (va_up (va_up X 0 (upd (X 0) 15 (nI 0))) 2 f1) 30 (upd (X 30) 4 (nI 0)) = Z at *
  generalize va_up Y 2 g1 = W at *
  obtain ⟨hP, hS, k7, k8, n1, n2⟩ := ht
  have hFK : ∀ X' Y', FB Z W X' Y' → ∀ v, FK X Y (va_up X' 0 (upd (X' 0) 16 v)) Y' := by
    intro X' Y' f v
    have h0 : X' 0 = upd (X 0) 15 (nI 0) := by rw [f.1 0 (by omega) (by omega), hZz]
    refine ⟨fun k a b c => ?_, fun j a b => ?_, ?_, fun k a => ?_⟩
    · rw [va_up_ne _ _ a, f.1 k b c, hZ0 k a b (by omega)]
    · rw [va_up_self, h0, pk_un b, pk_un a]
    · rw [va_up_self, h0]; simp [upd]
    · rw [f.2.2 k a, hW0 k a]
  refine rBook_loop (d := d + 6) (c := (t, n, 500)) (nm := nm) (P := P) (S := S) 31 0 0 B00 Z W (by omega) (by omega) ⟨hP, hS, by rw [hZ0 47 (by omega) (by omega) (by omega)]; exact k7, by rw [hZ0 47 (by omega) (by omega) (by omega)]; exact k8, by rw [hW0 48 (by omega)]; exact n1, by rw [hW0 51 (by omega)]; exact n2⟩ (by rw [hZ2, hW2]; exact r1) ⟨by rw [hZ0 1 (by omega) (by omega) (by omega)]; exact hT, hn, by show 500 ≤ 940; omega⟩ (by show 0 ≤ n; omega) (by rw [hZ3]; simp [upd]) (fun q hq => by omega) (fun q hq => by omega) (fun e j es X' Y' f r => ?_) (fun m B es hm hB X' Y' hc h4 f r9 => ?_)
  · have h9 : X' 2 9 = nI e := r.2.2.2.2.2.2.2.1
    have h5 : X' 2 5 = nI (cP (t, n, 500) j) := r.2.2.2.2.2.1
    have := hQ1 e j es (va_up X' 0 (upd (X' 0) 16 (nI e))) Y' (hFK X' Y' f _) (by simp [va_up, upd]) (fun j hj => by rw [va_up_ne _ _ (by omega), f.2.1 j hj, hZ3, pk_un hj])
    simp (disch := omega) [w143_38, w143_39, w143_40, x143_41_0, x143_44_2, x143_47, w143_50, w143_51, w143_54, w143_56, x143_57_0, x143_60_2, w143_63, w143_64, rt143, aw_st, ai_cls, ai_len, ai_p, ai_sw, ai_m, ai_c, ai_at, ai_isI, ai_isJ, ai_isA, ai_ld, ai_1i, ai_2i, ai_2l, ai_cn, ai_j, ai_set, ai_set2, ai_nl, ai_rs, ai_sm, Value.category, hk0, hk1, lits, litb, litm, litm2, List.getElem?_cons_zero, List.getElem?_cons_succ, or_n0, bit_r, fi0, fi1, fi2, fi3, nI_toInt, nI_add, pk_mul, nI_leI, nI_ltI, nI_eq, pk_sub, ib_nI, nI_clamp, va_up_self, va_up_ne, va_up_up, va_up_comm, pk_us, pk_un, upd_up, updL_up, pk_uLs, pk_uLn, b01_1, b01_0, b01_1s, b01_0s, or_b, h9, h5]
    exact this
  · have hf := hFK X' Y' f (nI 0)
    have hq2 := fun l2 F' => hQ2 m B es hm hB (va_up X' 0 (upd (X' 0) 16 (nI 0))) Y' l2 F' hf (by simp [va_up, upd])
    have hc' : CB (va_up X' 0 (upd (X' 0) 16 (nI 0))) B m := hc
    have h4' : va_up X' 0 (upd (X' 0) 16 (nI 0)) 30 4 = nI m := h4
    simp (disch := omega) [w143_38, w143_39, w143_40, x143_41_0, x143_44_2, x143_47, w143_50, w143_51, w143_65, x143_66_0, w143_69, x143_70_0, x143_73_55, x143_73_5, rt143, aw_st, ai_cls, ai_len, ai_p, ai_sw, ai_m, ai_c, ai_at, ai_isI, ai_isJ, ai_isA, ai_ld, ai_1i, ai_2i, ai_2l, ai_cn, ai_j, ai_set, ai_set2, ai_nl, ai_rs, ai_sm, Value.category, hk0, hk1, lits, litb, litm, litm2, List.getElem?_cons_zero, List.getElem?_cons_succ, or_n0, bit_r, fi0, fi1, fi2, fi3, nI_toInt, nI_add, pk_mul, nI_leI, nI_ltI, nI_eq, pk_sub, ib_nI, nI_clamp, va_up_self, va_up_ne, va_up_up, va_up_comm, pk_us, pk_un, upd_up, updL_up, pk_uLs, pk_uLn, b01_1, b01_0, b01_1s, b01_0s, or_b, r9]
    generalize va_up X' 0 (upd (X' 0) 16 (nI 0)) = Z2 at *
    have hz : ∀ k, 35 ≤ k → Z2 k = X k := fun k a => hf.1 k (by omega) (by omega) (by omega)
    have e61 : lv Z2 61 = lv X 61 := lv_eq (fun k a b => hz k (by omega))
    have e70 : lv Z2 70 = lv X 70 := lv_eq (fun k a b => hz k (by omega))
    have e47 : cv Z2 47 = cv X 47 := cv_eq (fun k a b => hz k (by omega))
    have hcp := fun (Q : List Value → Nat → Nat → ai_M → Prop) => lcopyM (G := G) (d := d + 11) (sl := sl) (Q := Q) (X := Z2) (Y := Y') (o := 70) (q := 61) hG (by simp [isLf]) (by simp [isLf]) (by omega)
    rw [e61, e70] at hcp
    simp (disch := omega) [x143_76_61, x143_76_70, rt143, aw_st, ai_cls, ai_len, ai_p, ai_sw, ai_m, ai_c, ai_at, ai_isI, ai_isJ, ai_isA, ai_ld, ai_1i, ai_2i, ai_2l, ai_cn, ai_j, ai_set, ai_set2, ai_nl, ai_rs, ai_sm, Value.category, hk0, hk1, lits, litb, litm, litm2, List.getElem?_cons_zero, List.getElem?_cons_succ, or_n0, bit_r, fi0, fi1, fi2, fi3, nI_toInt, nI_add, pk_mul, nI_leI, nI_ltI, nI_eq, pk_sub, ib_nI, nI_clamp, va_up_self, va_up_ne, va_up_up, va_up_comm, pk_us, pk_un, upd_up, updL_up, pk_uLs, pk_uLn, b01_1, b01_0, b01_1s, b01_0s, or_b, hcp]
    simp (disch := omega) [w143_79, w143_80, w143_83, x143_84_0, w143_87, x143_88_0, x143_91_30, rt143, aw_st, ai_cls, ai_len, ai_p, ai_sw, ai_m, ai_c, ai_at, ai_isI, ai_isJ, ai_isA, ai_ld, ai_1i, ai_2i, ai_2l, ai_cn, ai_j, ai_set, ai_set2, ai_nl, ai_rs, ai_sm, Value.category, hk0, hk1, lits, litb, litm, litm2, List.getElem?_cons_zero, List.getElem?_cons_succ, or_n0, bit_r, fi0, fi1, fi2, fi3, nI_toInt, nI_add, pk_mul, nI_leI, nI_ltI, nI_eq, pk_sub, ib_nI, nI_clamp, va_up_self, va_up_ne, va_up_up, va_up_comm, pk_us, pk_un, upd_up, updL_up, pk_uLs, pk_uLn, b01_1, b01_0, b01_1s, b01_0s, or_b]
    have := live_70 (G := G) (d := d) (sl := sl) (Q := fun r n sl M => aw ET G (d + 13) 143 94 [some (.ref 0), some (.int (nI 0)), some (.int (nI 1)), none] r n sl M Q) (Y := Y') (l := cpyL (lv X 70) (lv X 61)) (X := Z2) (F := Z2 30) hP hS (by rw [hz 47 (by omega)]; exact k7) hc' hB hm h4' (fun l2 F' hl2 hF => by
      rw [e47] at hl2 hF ⊢
      have := hq2 l2 F' hl2 ⟨by rw [hF.2.1]; simp [upd], hF.2.2.1, hF.2.2.2.1, hF.2.2.2.2.1, hF.2.2.2.2.2⟩
      simp (disch := omega) [w143_94, rt143, aw_st, ai_cls, ai_len, ai_p, ai_sw, ai_m, ai_c, ai_at, ai_isI, ai_isJ, ai_isA, ai_ld, ai_1i, ai_2i, ai_2l, ai_cn, ai_j, ai_set, ai_set2, ai_nl, ai_rs, ai_sm, Value.category, hk0, hk1, lits, litb, litm, litm2, List.getElem?_cons_zero, List.getElem?_cons_succ, or_n0, bit_r, fi0, fi1, fi2, fi3, nI_toInt, nI_add, pk_mul, nI_leI, nI_ltI, nI_eq, pk_sub, ib_nI, nI_clamp, va_up_self, va_up_ne, va_up_up, va_up_comm, pk_us, pk_un, upd_up, updL_up, pk_uLs, pk_uLn, b01_1, b01_0, b01_1s, b01_0s, or_b]
      exact this)
    rw [va_id] at this
    exact this
set_option maxHeartbeats 8000000 in
theorem tbook_1 (hG : G.1 = false) (hT : TB8 (X 1) t) (h15 : X 0 15 = nI n) (hn : n ≤ 940) (ht : TN X Y nm P S) {old m0 : Nat} (p1 : X 79 1 = nI old) (p2 : X 79 2 = nI m0) (hold : old < 8) (hm0 : m0 ≤ 8) (hQ1 : ∀ e j, sBook (t, n, 500) nm P S 31 0 0 B00 = .inl (e, j) → ∀ X' Y', FK X Y X' Y' → X' 0 16 = nI e → (∀ j, ¬ j = 4 → X' 30 j = X 30 j) → Q [.int (mi2 - nI (cP (t, n, 500) j))] 231 sl (mem X' Y')) (hQ2 : ∀ m B, sBook (t, n, 500) nm P S 31 0 0 B00 = .inr (m, B) → m ≤ 30 → BB B m P S → ∀ X' Y' l2 F', FK X Y X' Y' → X' 0 16 = nI 0 → LQ l2 (liveR (cv X 47) P B m 0 (lv X 61) (nI 0) (nI 0)).2.2.2.1 → bkT F' (liveR (cv X 47) P B m 0 (lv X 61) (nI 0) (nI 0)) → Q [.int (liveR (cv X 47) P B m 0 (lv X 61) (nI 0) (nI 0)).1] 231 sl (mem (if (liveR (cv X 47) P B m 0 (lv X 61) (nI 0) (nI 0)).2.2.1 = 0 then plv (va_up (plv X' 70 (cpyL (lv X 70) (lv X 61))) 30 F') 61 l2 else pushX (plv (va_up (plv X' 70 (cpyL (lv X 70) (lv X 61))) 30 F') 61 l2) old m0 70) Y')) : aw ET G (d + 13) 143 0 [some (.ref 0), some (.int (nI 1)), none, none] [] 231 sl (mem X Y) Q := by
  simp (disch := omega) [w143_0, w143_1, w143_4, w143_5, w143_6, w143_9, w143_12, w143_13, w143_14, x143_17_0, rt143, aw_st, ai_cls, ai_len, ai_p, ai_sw, ai_m, ai_c, ai_at, ai_isI, ai_isJ, ai_isA, ai_ld, ai_1i, ai_2i, ai_2l, ai_cn, ai_j, ai_set, ai_set2, ai_nl, ai_rs, ai_sm, Value.category, hk0, hk1, lits, litb, litm, litm2, List.getElem?_cons_zero, List.getElem?_cons_succ, or_n0, bit_r, fi0, fi1, fi2, fi3, nI_toInt, nI_add, pk_mul, nI_leI, nI_ltI, nI_eq, pk_sub, ib_nI, nI_clamp, va_up_self, va_up_ne, va_up_up, va_up_comm, pk_us, pk_un, upd_up, updL_up, pk_uLs, pk_uLn, b01_1, b01_0, b01_1s, b01_0s, or_b]
  refine openTape_wp (d := d + 8) hT h15 hn (by omega) (fun f1 g1 r1 => ?_)
  simp (disch := omega) [w143_20, x143_21_0, w143_24, x143_25_0, w143_28, x143_29_0, x143_32_55, x143_32_5, x143_35_30, rt143, w144_0, w144_1, x144_2, w144_5, w144_6, rt144, aw_st, ai_cls, ai_len, ai_p, ai_sw, ai_m, ai_c, ai_at, ai_isI, ai_isJ, ai_isA, ai_ld, ai_1i, ai_2i, ai_2l, ai_cn, ai_j, ai_set, ai_set2, ai_nl, ai_rs, ai_sm, Value.category, hk0, hk1, lits, litb, litm, litm2, List.getElem?_cons_zero, List.getElem?_cons_succ, or_n0, bit_r, fi0, fi1, fi2, fi3, nI_toInt, nI_add, pk_mul, nI_leI, nI_ltI, nI_eq, pk_sub, ib_nI, nI_clamp, va_up_self, va_up_ne, va_up_up, va_up_comm, pk_us, pk_un, upd_up, updL_up, pk_uLs, pk_uLn, b01_1, b01_0, b01_1s, b01_0s, or_b]
  have hZ0 : ∀ k, ¬ k = 0 → ¬ k = 2 → ¬ k = 30 → va_up (va_up (va_up X 0 (upd (X 0) 15 (nI 0))) 2 f1) 30 (upd (X 30) 4 (nI 0)) k = X k := fun k a b c => by rw [va_up_ne _ _ c, va_up_ne _ _ b, va_up_ne _ _ a]
  have hZ2 : va_up (va_up (va_up X 0 (upd (X 0) 15 (nI 0))) 2 f1) 30 (upd (X 30) 4 (nI 0)) 2 = f1 := by simp [va_up]
  have hZz : va_up (va_up (va_up X 0 (upd (X 0) 15 (nI 0))) 2 f1) 30 (upd (X 30) 4 (nI 0)) 0 = upd (X 0) 15 (nI 0) := by simp [va_up]
  have hZ3 : va_up (va_up (va_up X 0 (upd (X 0) 15 (nI 0))) 2 f1) 30 (upd (X 30) 4 (nI 0)) 30 = upd (X 30) 4 (nI 0) := by simp [va_up]
  have hW0 : ∀ k, ¬ k = 2 → va_up Y 2 g1 k = Y k := fun k a => va_up_ne _ _ a
  have hW2 : va_up Y 2 g1 2 = g1 := va_up_self _ _ _
  generalize va_up (va_up (va_up X 0 (upd (X 0) 15 (nI 0))) 2 f1) 30 (upd (X 30) 4 (nI 0)) = Z at *
  generalize va_up Y 2 g1 = W at *
  obtain ⟨hP, hS, k7, k8, n1, n2⟩ := ht
  have hFK : ∀ X' Y', FB Z W X' Y' → ∀ v, FK X Y (va_up X' 0 (upd (X' 0) 16 v)) Y' := by
    intro X' Y' f v
    have h0 : X' 0 = upd (X 0) 15 (nI 0) := by rw [f.1 0 (by omega) (by omega), hZz]
    refine ⟨fun k a b c => ?_, fun j a b => ?_, ?_, fun k a => ?_⟩
    · rw [va_up_ne _ _ a, f.1 k b c, hZ0 k a b (by omega)]
    · rw [va_up_self, h0, pk_un b, pk_un a]
    · rw [va_up_self, h0]; simp [upd]
    · rw [f.2.2 k a, hW0 k a]
  refine rBook_loop (d := d + 6) (c := (t, n, 500)) (nm := nm) (P := P) (S := S) 31 0 0 B00 Z W (by omega) (by omega) ⟨hP, hS, by rw [hZ0 47 (by omega) (by omega) (by omega)]; exact k7, by rw [hZ0 47 (by omega) (by omega) (by omega)]; exact k8, by rw [hW0 48 (by omega)]; exact n1, by rw [hW0 51 (by omega)]; exact n2⟩ (by rw [hZ2, hW2]; exact r1) ⟨by rw [hZ0 1 (by omega) (by omega) (by omega)]; exact hT, hn, by show 500 ≤ 940; omega⟩ (by show 0 ≤ n; omega) (by rw [hZ3]; simp [upd]) (fun q hq => by omega) (fun q hq => by omega) (fun e j es X' Y' f r => ?_) (fun m B es hm hB X' Y' hc h4 f r9 => ?_)
  · have h9 : X' 2 9 = nI e := r.2.2.2.2.2.2.2.1
    have h5 : X' 2 5 = nI (cP (t, n, 500) j) := r.2.2.2.2.2.1
    have := hQ1 e j es (va_up X' 0 (upd (X' 0) 16 (nI e))) Y' (hFK X' Y' f _) (by simp [va_up, upd]) (fun j hj => by rw [va_up_ne _ _ (by omega), f.2.1 j hj, hZ3, pk_un hj])
    simp (disch := omega) [w143_38, w143_39, w143_40, x143_41_0, x143_44_2, x143_47, w143_50, w143_51, w143_54, w143_56, x143_57_0, x143_60_2, w143_63, w143_64, rt143, aw_st, ai_cls, ai_len, ai_p, ai_sw, ai_m, ai_c, ai_at, ai_isI, ai_isJ, ai_isA, ai_ld, ai_1i, ai_2i, ai_2l, ai_cn, ai_j, ai_set, ai_set2, ai_nl, ai_rs, ai_sm, Value.category, hk0, hk1, lits, litb, litm, litm2, List.getElem?_cons_zero, List.getElem?_cons_succ, or_n0, bit_r, fi0, fi1, fi2, fi3, nI_toInt, nI_add, pk_mul, nI_leI, nI_ltI, nI_eq, pk_sub, ib_nI, nI_clamp, va_up_self, va_up_ne, va_up_up, va_up_comm, pk_us, pk_un, upd_up, updL_up, pk_uLs, pk_uLn, b01_1, b01_0, b01_1s, b01_0s, or_b, h9, h5]
    exact this
  · have hf := hFK X' Y' f (nI 0)
    have hq2 := fun l2 F' => hQ2 m B es hm hB (va_up X' 0 (upd (X' 0) 16 (nI 0))) Y' l2 F' hf (by simp [va_up, upd])
    have hc' : CB (va_up X' 0 (upd (X' 0) 16 (nI 0))) B m := hc
    have h4' : va_up X' 0 (upd (X' 0) 16 (nI 0)) 30 4 = nI m := h4
    simp (disch := omega) [w143_38, w143_39, w143_40, x143_41_0, x143_44_2, x143_47, w143_50, w143_51, w143_65, x143_66_0, w143_69, x143_70_0, x143_73_55, x143_73_5, rt143, aw_st, ai_cls, ai_len, ai_p, ai_sw, ai_m, ai_c, ai_at, ai_isI, ai_isJ, ai_isA, ai_ld, ai_1i, ai_2i, ai_2l, ai_cn, ai_j, ai_set, ai_set2, ai_nl, ai_rs, ai_sm, Value.category, hk0, hk1, lits, litb, litm, litm2, List.getElem?_cons_zero, List.getElem?_cons_succ, or_n0, bit_r, fi0, fi1, fi2, fi3, nI_toInt, nI_add, pk_mul, nI_leI, nI_ltI, nI_eq, pk_sub, ib_nI, nI_clamp, va_up_self, va_up_ne, va_up_up, va_up_comm, pk_us, pk_un, upd_up, updL_up, pk_uLs, pk_uLn, b01_1, b01_0, b01_1s, b01_0s, or_b, r9]
    generalize va_up X' 0 (upd (X' 0) 16 (nI 0)) = Z2 at *
    have hz : ∀ k, 35 ≤ k → Z2 k = X k := fun k a => hf.1 k (by omega) (by omega) (by omega)
    have e61 : lv Z2 61 = lv X 61 := lv_eq (fun k a b => hz k (by omega))
    have e70 : lv Z2 70 = lv X 70 := lv_eq (fun k a b => hz k (by omega))
    have e47 : cv Z2 47 = cv X 47 := cv_eq (fun k a b => hz k (by omega))
    have hcp := fun (Q : List Value → Nat → Nat → ai_M → Prop) => lcopyM (G := G) (d := d + 11) (sl := sl) (Q := Q) (X := Z2) (Y := Y') (o := 70) (q := 61) hG (by simp [isLf]) (by simp [isLf]) (by omega)
    rw [e61, e70] at hcp
    simp (disch := omega) [x143_76_61, x143_76_70, rt143, aw_st, ai_cls, ai_len, ai_p, ai_sw, ai_m, ai_c, ai_at, ai_isI, ai_isJ, ai_isA, ai_ld, ai_1i, ai_2i, ai_2l, ai_cn, ai_j, ai_set, ai_set2, ai_nl, ai_rs, ai_sm, Value.category, hk0, hk1, lits, litb, litm, litm2, List.getElem?_cons_zero, List.getElem?_cons_succ, or_n0, bit_r, fi0, fi1, fi2, fi3, nI_toInt, nI_add, pk_mul, nI_leI, nI_ltI, nI_eq, pk_sub, ib_nI, nI_clamp, va_up_self, va_up_ne, va_up_up, va_up_comm, pk_us, pk_un, upd_up, updL_up, pk_uLs, pk_uLn, b01_1, b01_0, b01_1s, b01_0s, or_b, hcp]
    simp (disch := omega) [w143_79, w143_80, w143_95, x143_96_0, w143_99, x143_100_0, x143_103_55, x143_106_30, rt143, aw_st, ai_cls, ai_len, ai_p, ai_sw, ai_m, ai_c, ai_at, ai_isI, ai_isJ, ai_isA, ai_ld, ai_1i, ai_2i, ai_2l, ai_cn, ai_j, ai_set, ai_set2, ai_nl, ai_rs, ai_sm, Value.category, hk0, hk1, lits, litb, litm, litm2, List.getElem?_cons_zero, List.getElem?_cons_succ, or_n0, bit_r, fi0, fi1, fi2, fi3, nI_toInt, nI_add, pk_mul, nI_leI, nI_ltI, nI_eq, pk_sub, ib_nI, nI_clamp, va_up_self, va_up_ne, va_up_up, va_up_comm, pk_us, pk_un, upd_up, updL_up, pk_uLs, pk_uLn, b01_1, b01_0, b01_1s, b01_0s, or_b]
    have hc2 : CB (plv Z2 70 (cpyL (lv X 70) (lv X 61))) B m := CB_h hc' (fun k a b => by rw [plv_out (by omega)])
    have h42 : plv Z2 70 (cpyL (lv X 70) (lv X 61)) 30 4 = nI m := by rw [plv_out (by omega)]; exact h4'
    have k72 : plv Z2 70 (cpyL (lv X 70) (lv X 61)) 47 7 = nI P := by rw [plv_out (by omega), hz 47 (by omega)]; exact k7
    have e472 : cv (plv Z2 70 (cpyL (lv X 70) (lv X 61))) 47 = cv X 47 := by rw [cv_plv (by omega), e47]
    have e612 : lv (plv Z2 70 (cpyL (lv X 70) (lv X 61))) 61 = lv X 61 := by rw [lv_plv_ne (by omega), e61]
    have z1 : plv Z2 70 (cpyL (lv X 70) (lv X 61)) 79 1 = nI old := by rw [plv_out (by omega), hz 79 (by omega)]; exact p1
    have z2 : plv Z2 70 (cpyL (lv X 70) (lv X 61)) 79 2 = nI m0 := by rw [plv_out (by omega), hz 79 (by omega)]; exact p2
    generalize plv Z2 70 (cpyL (lv X 70) (lv X 61)) = Z3 at *
    have := live_61 (G := G) (d := d) (sl := sl) (Q := fun r n sl M => aw ET G (d + 13) 143 109 [some (.ref 0), some (.int (nI 1)), some (.int (nI 1)), none] r n sl M Q) (Y := Y') (l := lv X 61) (X := Z3) (F := Z3 30) hP hS k72 hc2 hB hm h42 (fun l2 F' hl2 hF => by
      rw [e472] at hl2 hF ⊢
      have := hq2 l2 F' hl2 ⟨by rw [hF.2.1]; simp [upd], hF.2.2.1, hF.2.2.2.1, hF.2.2.2.2.1, hF.2.2.2.2.2⟩
      have hq := (liveR_q (k := cv X 47) (P := P) (B := B) m 0 (lv X 61) (nI 0) (nI 0)).2
      have h7 : F' 7 = nI (liveR (cv X 47) P B m 0 (lv X 61) (nI 0) (nI 0)).2.2.1 := hF.2.2.2.1
      have h5 : F' 5 = nI 1 := by rw [hF.2.1]; simp [upd]
      have h30 : plv (va_up Z3 30 F') 61 l2 30 = F' := by rw [plv_out (by omega), va_up_self]
      have y1 : plv (va_up Z3 30 F') 61 l2 79 1 = nI old := by rw [plv_out (by omega), va_up_ne _ _ (by omega)]; exact z1
      have y2 : plv (va_up Z3 30 F') 61 l2 79 2 = nI m0 := by rw [plv_out (by omega), va_up_ne _ _ (by omega)]; exact z2
      have h1 : toldF F' (nI 1) = nI (liveR (cv X 47) P B m 0 (lv X 61) (nI 0) (nI 0)).2.2.1 := by unfold toldF; rw [h5, if_neg (by decide), if_neg (by decide), if_pos rfl, h7]
      have hpu := fun (Q : List Value → Nat → Nat → ai_M → Prop) => push_eq' (G := G) (d := d + 10) (sl := sl) (Q := Q) (X := plv (va_up Z3 30 F') 61 l2) (Y := Y') (o := 70) hG (by simp [isHT]) y1 y2 hold hm0
      by_cases q0 : (liveR (cv X 47) P B m 0 (lv X 61) (nI 0) (nI 0)).2.2.1 = 0
      · rw [q0, if_pos rfl] at this
        rw [q0] at h1
        simp (disch := omega) [w143_109, w143_110, x143_111_0, w143_114, x143_115_30, w143_118, w143_132, w143_133, rt143, aw_st, ai_cls, ai_len, ai_p, ai_sw, ai_m, ai_c, ai_at, ai_isI, ai_isJ, ai_isA, ai_ld, ai_1i, ai_2i, ai_2l, ai_cn, ai_j, ai_set, ai_set2, ai_nl, ai_rs, ai_sm, Value.category, hk0, hk1, lits, litb, litm, litm2, List.getElem?_cons_zero, List.getElem?_cons_succ, or_n0, bit_r, fi0, fi1, fi2, fi3, nI_toInt, nI_add, pk_mul, nI_leI, nI_ltI, nI_eq, pk_sub, ib_nI, nI_clamp, va_up_self, va_up_ne, va_up_up, va_up_comm, pk_us, pk_un, upd_up, updL_up, pk_uLs, pk_uLn, b01_1, b01_0, b01_1s, b01_0s, or_b, told_eq, h30, h1]
        exact this
      · rw [if_neg q0] at this
        simp (disch := omega) [w143_109, w143_110, x143_111_0, w143_114, x143_115_30, w143_118, w143_121, x143_122_0, w143_125, x143_126_0, x143_129_79, w143_132, w143_133, rt143, aw_st, ai_cls, ai_len, ai_p, ai_sw, ai_m, ai_c, ai_at, ai_isI, ai_isJ, ai_isA, ai_ld, ai_1i, ai_2i, ai_2l, ai_cn, ai_j, ai_set, ai_set2, ai_nl, ai_rs, ai_sm, Value.category, hk0, hk1, lits, litb, litm, litm2, List.getElem?_cons_zero, List.getElem?_cons_succ, or_n0, bit_r, fi0, fi1, fi2, fi3, nI_toInt, nI_add, pk_mul, nI_leI, nI_ltI, nI_eq, pk_sub, ib_nI, nI_clamp, va_up_self, va_up_ne, va_up_up, va_up_comm, pk_us, pk_un, upd_up, updL_up, pk_uLs, pk_uLn, b01_1, b01_0, b01_1s, b01_0s, or_b, told_eq, h30, h1, hpu, q0, show 0 < (liveR (cv X 47) P B m 0 (lv X 61) (nI 0) (nI 0)).2.2.1 by omega]
        exact this)
    rw [va_id, ← e612, plv_self] at this
    exact this
end BKE
