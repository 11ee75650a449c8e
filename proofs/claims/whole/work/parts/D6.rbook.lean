/-! BOOK: the reference, the call -/
section RBR
variable {G : ai_G} {d sl : Nat} {Q : List Value → Nat → Nat → ai_M → Prop} {Y : mY} {X : mX} {P S m0 n : Nat} {B : BL} {l l' k : Nat → Nat → Int32} {ls : Nat → Nat → Nat → Int32} {nm : Nat → List Nat} {t : Nat → Nat}
set_option maxHeartbeats 4000000 in
theorem bk_kept {M : Nat} {v1 v2 : Option Value} {v3 : Int32} (hM : M ≤ 7) : ∀ (r i : Nat) (X : mX), X 199 28 = nI (M + 1) → i + r = 125 → aw ET G d 271 236 [some (.ref 199), v1, v2, some (.int v3), some (.int (nI i))] [] 231 sl (mem X Y) Q = aw ET G d 271 273 [some (.ref 199), v1, v2, some (.int v3), some (.int (nI 125))] [] 231 sl (mem (va_up X 208 (va_cpy (X 209) (X 208) i (125 * M + i) r)) Y) Q := by
  intro r
  induction r with
  | zero =>
    intro i X hx hi
    have : i = 125 := by omega
    subst this
    have e : va_up X 208 (va_cpy (X 209) (X 208) 125 (125 * M + 125) 0) = X := by rw [cpy_0]; funext j; simp only [va_up]; split <;> simp_all
    rw [e]
    simp (disch := omega) [w271_236, w271_238, w271_240, rt271, aw_st, ai_cls, ai_len, ai_p, ai_sw, ai_m, ai_c, ai_at, ai_isI, ai_isJ, ai_isA, ai_ld, ai_1i, ai_2i, ai_2l, ai_cn, ai_j, ai_set, ai_set2, ai_nl, ai_rs, ai_sm, Value.category, hk0, hk1, lits, litb, litm, litm2, List.getElem?_cons_zero, List.getElem?_cons_succ, or_n0, bit_r, fi0, fi1, fi2, fi3, nI_toInt, nI_add, pk_mul, nI_leI, nI_ltI, nI_eq, pk_sub, ib_nI, nI_clamp, va_up_self, va_up_ne, va_up_up, va_up_comm, pk_us, pk_un, upd_up, updL_up, pk_uLs, pk_uLn, b01_1, b01_0, b01_1s, b01_0s, or_b, mm200, mu200, mm201, mu201, mm202, mu202, mm203, mu203, mm204, mu204, mm205, mu205, mm206, mu206, mm207, mu207, mm208, mu208, mm209, mu209, mm210, mu210, mm211, mu211, mm212, mu212, mm213, mu213, mm214, mu214, mm215, mu215, mm216, mu216, mm217, mu217, mm218, mu218, mm219, mu219, mm220, mu220, mm221, mu221, mm222, mu222, mm223, mu223, mm224, mu224, mm225, mu225, mm226, mu226, mm227, mu227, mm228, mu228, mm229, mu229, mm230, mu230]
  | succ r ih =>
    intro i X hx hi
    have hs : nI (M + 1) - nI 1 = nI M := by rw [pk_sub (by omega)]; rfl
    rw [w271_236]
    simp (disch := omega) [w271_238, w271_240, w271_243, x271_244, w271_247, w271_249, x271_250, w271_253, w271_254, w271_255, w271_256, w271_258, w271_259, x271_260, w271_263, w271_265, w271_266, w271_267, w271_270, rt271, aw_st, ai_cls, ai_len, ai_p, ai_sw, ai_m, ai_c, ai_at, ai_isI, ai_isJ, ai_isA, ai_ld, ai_1i, ai_2i, ai_2l, ai_cn, ai_j, ai_set, ai_set2, ai_nl, ai_rs, ai_sm, Value.category, hk0, hk1, lits, litb, litm, litm2, List.getElem?_cons_zero, List.getElem?_cons_succ, or_n0, bit_r, fi0, fi1, fi2, fi3, nI_toInt, nI_add, pk_mul, nI_leI, nI_ltI, nI_eq, pk_sub, ib_nI, nI_clamp, va_up_self, va_up_ne, va_up_up, va_up_comm, pk_us, pk_un, upd_up, updL_up, pk_uLs, pk_uLn, b01_1, b01_0, b01_1s, b01_0s, or_b, mm200, mu200, mm201, mu201, mm202, mu202, mm203, mu203, mm204, mu204, mm205, mu205, mm206, mu206, mm207, mu207, mm208, mu208, mm209, mu209, mm210, mu210, mm211, mu211, mm212, mu212, mm213, mu213, mm214, mu214, mm215, mu215, mm216, mu216, mm217, mu217, mm218, mu218, mm219, mu219, mm220, mu220, mm221, mu221, mm222, mu222, mm223, mu223, mm224, mu224, mm225, mu225, mm226, mu226, mm227, mu227, mm228, mu228, mm229, mu229, mm230, mu230, hx, hs, show ¬ 125 ≤ i by omega]
    rw [ih (i + 1) _ (by simp [va_up, hx]) (by omega), ← cpy_step]
    simp (disch := omega) [va_up_self, va_up_up, va_up_ne, upd_vf, show 125 * M + (i + 1) = 125 * M + i + 1 from rfl]
theorem US_last {u b : Nat → Int32} {l1 : Nat → Nat → Int32} {m : Nat} (hU : US u (pushN m) (pushL m ls l1)) (hm : m ≤ 8) (hb : LSx (fun i => b (i - 132)) l) : US (va_cpy b u 0 (125 * (pushN m - 1)) 125) (pushN m) (pushL m ls l) := by
  refine ⟨hU.1, fun c hc => ?_⟩
  have hp : pushN m = if m = 8 then 8 else m + 1 := rfl
  by_cases h8 : m = 8
  · rw [if_pos h8] at hp
    rw [hp] at hc ⊢
    unfold pushL
    rw [if_pos h8]
    by_cases c7 : c < 7
    · rw [if_pos c7]
      have := hU.2 c (by omega)
      unfold pushL at this
      rw [if_pos h8, if_pos c7] at this
      refine this.kept (fun i h1 h2 => ?_)
      rw [pk_cpy_out (by omega)]
    · rw [if_neg c7]
      refine hb.kept (fun i h1 h2 => ?_)
      rw [pk_cpy_in (by omega) (by omega)]
      exact congrArg b (by omega)
  · rw [if_neg h8] at hp
    rw [hp] at hc ⊢
    unfold pushL
    rw [if_neg h8]
    by_cases cm : c = m
    · rw [if_pos cm]
      refine hb.kept (fun i h1 h2 => ?_)
      rw [pk_cpy_in (by omega) (by omega)]
      exact congrArg b (by omega)
    · rw [if_neg cm]
      have := hU.2 c (by omega)
      unfold pushL at this
      rw [if_neg h8, if_neg cm] at this
      refine this.kept (fun i h1 h2 => ?_)
      rw [pk_cpy_out (by omega)]
/-- what BOOK leaves as it was, in the reference: it failed -/
def BW (X : mX) (Y : mY) (X' : mX) (Y' : mY) : Prop := (∀ k, ¬ k = 199 → ¬ k = 203 → X' k = X k) ∧ (∀ k, ¬ k = 199 → Y' k = Y k) ∧ (∀ j, ¬ j = 0 → ¬ (2 ≤ j ∧ j ≤ 5) → ¬ (11 ≤ j ∧ j ≤ 16) → ¬ j = 18 → ¬ j = 51 → X' 199 j = X 199 j) ∧ X' 199 0 = nI 0 ∧ X' 199 2 = nI 0
/-- .. and it was taken -/
def BV (X : mX) (Y : mY) (X' : mX) (Y' : mY) : Prop := (∀ k, ¬ k = 199 → ¬ k = 201 → ¬ k = 203 → ¬ k = 206 → ¬ k = 208 → ¬ k = 209 → ¬ k = 224 → X' k = X k) ∧ (∀ i, i < 132 ∨ 257 ≤ i → X' 201 i = X 201 i) ∧ (∀ k, ¬ k = 199 → Y' k = Y k) ∧ (∀ j, ¬ j = 0 → ¬ (2 ≤ j ∧ j ≤ 5) → ¬ (11 ≤ j ∧ j ≤ 16) → ¬ j = 18 → ¬ j = 25 → ¬ j = 28 → ¬ j = 51 → ¬ j = 52 → ¬ j = 54 → X' 199 j = X 199 j) ∧ X' 199 0 = nI 0 ∧ X' 199 2 = nI 0 ∧ X' 199 54 = nI 1
def bk4 (f : Nat → Int32) (r : LR) : Prop := f 0 = r.2.1 ∧ f 1 = nI r.2.2.1 ∧ f 2 = r.2.2.2.2.1 ∧ f 3 = r.2.2.2.2.2
theorem rbook_bad {x : Int32} (h : inI (nI 0) (nI 1) x = false) : aw ET G (d + 1) 271 0 [some (.ref 199), some (.int x), none, none, none] [] 231 sl (mem X Y) Q = Q [.int mi1000] 231 sl (mem (va_up X 199 (upd (X 199) 0 (nI 0))) Y) := by
  simp (disch := omega) [w271_0, w271_1, x271_2, w271_5, w271_6, w271_7, x271_8, w271_11, w271_14, w271_17, rt271, aw_st, ai_cls, ai_len, ai_p, ai_sw, ai_m, ai_c, ai_at, ai_isI, ai_isJ, ai_isA, ai_ld, ai_1i, ai_2i, ai_2l, ai_cn, ai_j, ai_set, ai_set2, ai_nl, ai_rs, ai_sm, Value.category, hk0, hk1, lits, litb, litm, litm2, List.getElem?_cons_zero, List.getElem?_cons_succ, or_n0, bit_r, fi0, fi1, fi2, fi3, nI_toInt, nI_add, pk_mul, nI_leI, nI_ltI, nI_eq, pk_sub, ib_nI, nI_clamp, va_up_self, va_up_ne, va_up_up, va_up_comm, pk_us, pk_un, upd_up, updL_up, pk_uLs, pk_uLn, b01_1, b01_0, b01_1s, b01_0s, or_b, mm200, mu200, mm201, mu201, mm202, mu202, mm203, mu203, mm204, mu204, mm205, mu205, mm206, mu206, mm207, mu207, mm208, mu208, mm209, mu209, mm210, mu210, mm211, mu211, mm212, mu212, mm213, mu213, mm214, mu214, mm215, mu215, mm216, mu216, mm217, mu217, mm218, mu218, mm219, mu219, mm220, mu220, mm221, mu221, mm222, mu222, mm223, mu223, mm224, mu224, mm225, mu225, mm226, mu226, mm227, mu227, mm228, mu228, mm229, mu229, mm230, mu230, isIn_eq, h]
def bkS (t : Nat → Nat) (n : Nat) (nm : Nat → List Nat) (P S : Nat) := sBook (t, n, 500) nm P S 31 0 0 B00
set_option maxHeartbeats 8000000 in
theorem rbook_0 {B0 T : Nat} (hR : ∀ k, k < 21 → Y 205 k = kl k) (hT : TB8 (X 200) t) (h2 : X 199 2 = nI n) (hn : n ≤ 940) (hN : RNM X Y nm P S) (hL : LSx (X 201) l) (hk : KS (X 201) k P S) (hC : CI k P S) (hI : LI l B0 T) (hB0 : B0 + 2970 < 2 ^ 29) (hT0 : T + 30 ≤ 33554431) (hU : US (X 208) m0 ls) (h28 : X 199 28 = nI m0) (hQ1 : ∀ e j, sBook (t, n, 500) nm P S 31 0 0 B00 = .inl (e, j) → ∀ X' Y', BW X Y X' Y' → X' 199 15 = nI e → Q [.int (mi2 - nI (cP (t, n, 500) j))] 231 sl (mem X' Y')) (hQ2 : ∀ m B, sBook (t, n, 500) nm P S 31 0 0 B00 = .inr (m, B) → m ≤ 30 → BB B m P S → ∀ X' Y', BV X Y X' Y' → X' 199 15 = nI 0 → bk4 (X' 224) (liveR k P B m 0 l (nI 0) (nI 0)) → LSx (X' 201) l → US (X' 208) m0 ls → X' 199 28 = nI m0 → Q [.int (liveR k P B m 0 l (nI 0) (nI 0)).1] 231 sl (mem X' Y')) : aw ET G (d + 5) 271 0 [some (.ref 199), some (.int (nI 0)), none, none, none] [] 231 sl (mem X Y) Q := by
  have hin : inI (nI 0) (nI 1) (nI 0) = true := by decide
  simp (disch := omega) [w271_0, w271_1, x271_2, w271_5, w271_6, w271_7, x271_8, w271_11, w271_14, w271_17, w271_18, w271_19, x271_22, w271_25, w271_26, x271_27, w271_30, w271_31, x271_32, w271_35, x271_36, rt271, aw_st, ai_cls, ai_len, ai_p, ai_sw, ai_m, ai_c, ai_at, ai_isI, ai_isJ, ai_isA, ai_ld, ai_1i, ai_2i, ai_2l, ai_cn, ai_j, ai_set, ai_set2, ai_nl, ai_rs, ai_sm, Value.category, hk0, hk1, lits, litb, litm, litm2, List.getElem?_cons_zero, List.getElem?_cons_succ, or_n0, bit_r, fi0, fi1, fi2, fi3, nI_toInt, nI_add, pk_mul, nI_leI, nI_ltI, nI_eq, pk_sub, ib_nI, nI_clamp, va_up_self, va_up_ne, va_up_up, va_up_comm, pk_us, pk_un, upd_up, updL_up, pk_uLs, pk_uLn, b01_1, b01_0, b01_1s, b01_0s, or_b, mm200, mu200, mm201, mu201, mm202, mu202, mm203, mu203, mm204, mu204, mm205, mu205, mm206, mu206, mm207, mu207, mm208, mu208, mm209, mu209, mm210, mu210, mm211, mu211, mm212, mu212, mm213, mu213, mm214, mu214, mm215, mu215, mm216, mu216, mm217, mu217, mm218, mu218, mm219, mu219, mm220, mu220, mm221, mu221, mm222, mu222, mm223, mu223, mm224, mu224, mm225, mu225, mm226, mu226, mm227, mu227, mm228, mu228, mm229, mu229, mm230, mu230, isIn_eq, hin, taken_eq, h2]
  generalize hz : va_up X 199 _ = Z
  have z199 : ∀ j, ¬ j = 0 → ¬ (2 ≤ j ∧ j ≤ 5) → ¬ j = 15 → ¬ j = 51 → Z 199 j = X 199 j := fun j j1 j2 j3 j4 => by
    rw [← hz, va_up_self]
    simp (disch := omega) only [pk_un]
  have zo : ∀ k, ¬ k = 199 → Z k = X k := fun k hk => by rw [← hz, va_up_ne _ _ hk]
  have z0 : Z 199 0 = nI 0 := by rw [← hz, va_up_self]; simp [upd]
  have z2 : Z 199 2 = nI 0 := by rw [← hz, va_up_self]; simp [upd]
  have z3 : Z 199 3 = nI n := by rw [← hz, va_up_self]; simp [upd]
  have z4 : Z 199 4 = nI 0 := by rw [← hz, va_up_self]; simp [upd]
  have z5 : Z 199 5 = nI 500 := by rw [← hz, va_up_self]; simp [upd]
  have z15 : Z 199 15 = nI 0 := by rw [← hz, va_up_self]; simp [upd]
  have z51 : Z 199 51 = nI 0 := by rw [← hz, va_up_self]; simp [upd]
  have okc : OKr (t, n, 500) Z := ⟨by rw [zo 200 (by omega)]; exact hT, hn, by show 500 ≤ 940; omega⟩
  have hgo : ∀ (Q : List Value → Nat → Nat → ai_M → Prop), (∀ X' Y', HX Z Y X' Y' → RDR (t, n, 500) 0 (X' 199) (Y' 199) → X' 199 15 = Z 199 15 → Q [] 231 sl (mem X' Y')) → aw ET G (d + 4) 184 0 [some (.ref 199), none, none, none] [] 231 sl (mem Z Y) Q := by
    intro Q hq
    have := go_wp (G := G) (d := d + 3) (sl := sl) (Q := Q) (X := Z) (Y := Y) (c := (t, n, 500)) (i := 0) (F := Z 199) (W := Y 199) z3 z4 z5 okc (by show 0 ≤ n; omega) (fun F' W' r g w => hq _ _ (HX_F g.fe) (by rw [va_up_self, va_up_self]; exact r) (by rw [va_up_self]; exact g 15 (by omega) (by omega)))
    rw [va_id, va_id] at this
    exact this
  refine hgo _ (fun X1 Y1 y1 r1 f1 => ?_)
  have hft : ∀ X' Y', BZ X1 Y1 X' Y' → BW X Y X' Y' := fun X' Y' g => ⟨fun k k1 k2 => by rw [g.1 k k1 k2, y1.1 k k1, zo k k1], fun k k1 => by rw [g.2.1 k k1, y1.2.1 k k1], fun j j0 j1 j2 j3 j4 => by rw [g.2.2 j (by omega) j2 j3 j4, y1.2.2 j (by omega) j2 j3, z199 j j0 j1 (by omega) j4], by rw [g.2.2 0 (by omega) (by omega) (by omega) (by omega), y1.2.2 0 (by omega) (by omega) (by omega), z0], by rw [g.2.2 2 (by omega) (by omega) (by omega) (by omega), y1.2.2 2 (by omega) (by omega) (by omega), z2]⟩
  refine rbk_loop (d := d + 1) (c := (t, n, 500)) (nm := nm) (P := P) (S := S) 31 0 0 B00 X1 Y1 (by omega) (by omega) (fun k hk => by rw [y1.2.1 205 (by omega)]; exact hR k hk) (hN.cg (by rw [y1.1 201 (by omega), zo 201 (by omega)]) (y1.2.1 204 (by omega))) r1 (OKr_cg okc (y1.1 200 (by omega))) (by show 0 ≤ n; omega) (by rw [y1.2.2 51 (by omega) (by omega) (by omega), z51]) (fun q hq => by omega) (fun q hq => by omega) (fun e j es X' Y' g b15 b16 => ?_) (fun m B es hm hB X2 Y2 g2 hc b51 b15 => ?_)
  · exact hQ1 e j es X' Y' (hft X' Y' g) b15
  · have w2 := hft X2 Y2 g2
    have k15 : X2 199 15 = nI 0 := by rw [b15, f1, z15]
    have hL2 : LSx (X2 201) l := by rw [w2.1 201 (by omega) (by omega)]; exact hL
    have hk2 : KS (X2 201) k P S := by rw [w2.1 201 (by omega) (by omega)]; exact hk
    simp (disch := omega) [w271_83, x271_84, w271_87, w271_88, rt271, aw_st, ai_cls, ai_len, ai_p, ai_sw, ai_m, ai_c, ai_at, ai_isI, ai_isJ, ai_isA, ai_ld, ai_1i, ai_2i, ai_2l, ai_cn, ai_j, ai_set, ai_set2, ai_nl, ai_rs, ai_sm, Value.category, hk0, hk1, lits, litb, litm, litm2, List.getElem?_cons_zero, List.getElem?_cons_succ, or_n0, bit_r, fi0, fi1, fi2, fi3, nI_toInt, nI_add, pk_mul, nI_leI, nI_ltI, nI_eq, pk_sub, ib_nI, nI_clamp, va_up_self, va_up_ne, va_up_up, va_up_comm, pk_us, pk_un, upd_up, updL_up, pk_uLs, pk_uLn, b01_1, b01_0, b01_1s, b01_0s, or_b, mm200, mu200, mm201, mu201, mm202, mu202, mm203, mu203, mm204, mu204, mm205, mu205, mm206, mu206, mm207, mu207, mm208, mu208, mm209, mu209, mm210, mu210, mm211, mu211, mm212, mu212, mm213, mu213, mm214, mu214, mm215, mu215, mm216, mu216, mm217, mu217, mm218, mu218, mm219, mu219, mm220, mu220, mm221, mu221, mm222, mu222, mm223, mu223, mm224, mu224, mm225, mu225, mm226, mu226, mm227, mu227, mm228, mu228, mm229, mu229, mm230, mu230, tries_eq]
    rw [w271_89]
    simp (disch := omega) [w271_90, w271_91, w271_94, x271_95, w271_98, w271_99, w271_100, w271_101, w271_104, rt271, aw_st, ai_cls, ai_len, ai_p, ai_sw, ai_m, ai_c, ai_at, ai_isI, ai_isJ, ai_isA, ai_ld, ai_1i, ai_2i, ai_2l, ai_cn, ai_j, ai_set, ai_set2, ai_nl, ai_rs, ai_sm, Value.category, hk0, hk1, lits, litb, litm, litm2, List.getElem?_cons_zero, List.getElem?_cons_succ, or_n0, bit_r, fi0, fi1, fi2, fi3, nI_toInt, nI_add, pk_mul, nI_leI, nI_ltI, nI_eq, pk_sub, ib_nI, nI_clamp, va_up_self, va_up_ne, va_up_up, va_up_comm, pk_us, pk_un, upd_up, updL_up, pk_uLs, pk_uLn, b01_1, b01_0, b01_1s, b01_0s, or_b, mm200, mu200, mm201, mu201, mm202, mu202, mm203, mu203, mm204, mu204, mm205, mu205, mm206, mu206, mm207, mu207, mm208, mu208, mm209, mu209, mm210, mu210, mm211, mu211, mm212, mu212, mm213, mu213, mm214, mu214, mm215, mu215, mm216, mu216, mm217, mu217, mm218, mu218, mm219, mu219, mm220, mu220, mm221, mu221, mm222, mu222, mm223, mu223, mm224, mu224, mm225, mu225, mm226, mu226, mm227, mu227, mm228, mu228, mm229, mu229, mm230, mu230]
    rw [w271_89]
    simp (disch := omega) [w271_90, w271_91, w271_94, x271_95, w271_98, w271_99, w271_100, w271_101, w271_104, rt271, aw_st, ai_cls, ai_len, ai_p, ai_sw, ai_m, ai_c, ai_at, ai_isI, ai_isJ, ai_isA, ai_ld, ai_1i, ai_2i, ai_2l, ai_cn, ai_j, ai_set, ai_set2, ai_nl, ai_rs, ai_sm, Value.category, hk0, hk1, lits, litb, litm, litm2, List.getElem?_cons_zero, List.getElem?_cons_succ, or_n0, bit_r, fi0, fi1, fi2, fi3, nI_toInt, nI_add, pk_mul, nI_leI, nI_ltI, nI_eq, pk_sub, ib_nI, nI_clamp, va_up_self, va_up_ne, va_up_up, va_up_comm, pk_us, pk_un, upd_up, updL_up, pk_uLs, pk_uLn, b01_1, b01_0, b01_1s, b01_0s, or_b, mm200, mu200, mm201, mu201, mm202, mu202, mm203, mu203, mm204, mu204, mm205, mu205, mm206, mu206, mm207, mu207, mm208, mu208, mm209, mu209, mm210, mu210, mm211, mu211, mm212, mu212, mm213, mu213, mm214, mu214, mm215, mu215, mm216, mu216, mm217, mu217, mm218, mu218, mm219, mu219, mm220, mu220, mm221, mu221, mm222, mu222, mm223, mu223, mm224, mu224, mm225, mu225, mm226, mu226, mm227, mu227, mm228, mu228, mm229, mu229, mm230, mu230]
    rw [w271_89]
    simp (disch := omega) [w271_90, w271_91, w271_94, x271_95, w271_98, w271_99, w271_100, w271_101, w271_104, rt271, aw_st, ai_cls, ai_len, ai_p, ai_sw, ai_m, ai_c, ai_at, ai_isI, ai_isJ, ai_isA, ai_ld, ai_1i, ai_2i, ai_2l, ai_cn, ai_j, ai_set, ai_set2, ai_nl, ai_rs, ai_sm, Value.category, hk0, hk1, lits, litb, litm, litm2, List.getElem?_cons_zero, List.getElem?_cons_succ, or_n0, bit_r, fi0, fi1, fi2, fi3, nI_toInt, nI_add, pk_mul, nI_leI, nI_ltI, nI_eq, pk_sub, ib_nI, nI_clamp, va_up_self, va_up_ne, va_up_up, va_up_comm, pk_us, pk_un, upd_up, updL_up, pk_uLs, pk_uLn, b01_1, b01_0, b01_1s, b01_0s, or_b, mm200, mu200, mm201, mu201, mm202, mu202, mm203, mu203, mm204, mu204, mm205, mu205, mm206, mu206, mm207, mu207, mm208, mu208, mm209, mu209, mm210, mu210, mm211, mu211, mm212, mu212, mm213, mu213, mm214, mu214, mm215, mu215, mm216, mu216, mm217, mu217, mm218, mu218, mm219, mu219, mm220, mu220, mm221, mu221, mm222, mu222, mm223, mu223, mm224, mu224, mm225, mu225, mm226, mu226, mm227, mu227, mm228, mu228, mm229, mu229, mm230, mu230]
    rw [w271_89]
    simp (disch := omega) [w271_90, w271_91, w271_94, x271_95, w271_98, w271_99, w271_100, w271_101, w271_104, rt271, aw_st, ai_cls, ai_len, ai_p, ai_sw, ai_m, ai_c, ai_at, ai_isI, ai_isJ, ai_isA, ai_ld, ai_1i, ai_2i, ai_2l, ai_cn, ai_j, ai_set, ai_set2, ai_nl, ai_rs, ai_sm, Value.category, hk0, hk1, lits, litb, litm, litm2, List.getElem?_cons_zero, List.getElem?_cons_succ, or_n0, bit_r, fi0, fi1, fi2, fi3, nI_toInt, nI_add, pk_mul, nI_leI, nI_ltI, nI_eq, pk_sub, ib_nI, nI_clamp, va_up_self, va_up_ne, va_up_up, va_up_comm, pk_us, pk_un, upd_up, updL_up, pk_uLs, pk_uLn, b01_1, b01_0, b01_1s, b01_0s, or_b, mm200, mu200, mm201, mu201, mm202, mu202, mm203, mu203, mm204, mu204, mm205, mu205, mm206, mu206, mm207, mu207, mm208, mu208, mm209, mu209, mm210, mu210, mm211, mu211, mm212, mu212, mm213, mu213, mm214, mu214, mm215, mu215, mm216, mu216, mm217, mu217, mm218, mu218, mm219, mu219, mm220, mu220, mm221, mu221, mm222, mu222, mm223, mu223, mm224, mu224, mm225, mu225, mm226, mu226, mm227, mu227, mm228, mu228, mm229, mu229, mm230, mu230]
    rw [w271_89]
    simp (disch := omega) [w271_90, w271_91, w271_107, w271_108, x271_109, w271_112, x271_113, w271_116, w271_119, w271_120, w271_121, w271_122, w271_123, w271_124, rt271, aw_st, ai_cls, ai_len, ai_p, ai_sw, ai_m, ai_c, ai_at, ai_isI, ai_isJ, ai_isA, ai_ld, ai_1i, ai_2i, ai_2l, ai_cn, ai_j, ai_set, ai_set2, ai_nl, ai_rs, ai_sm, Value.category, hk0, hk1, lits, litb, litm, litm2, List.getElem?_cons_zero, List.getElem?_cons_succ, or_n0, bit_r, fi0, fi1, fi2, fi3, nI_toInt, nI_add, pk_mul, nI_leI, nI_ltI, nI_eq, pk_sub, ib_nI, nI_clamp, va_up_self, va_up_ne, va_up_up, va_up_comm, pk_us, pk_un, upd_up, updL_up, pk_uLs, pk_uLn, b01_1, b01_0, b01_1s, b01_0s, or_b, mm200, mu200, mm201, mu201, mm202, mu202, mm203, mu203, mm204, mu204, mm205, mu205, mm206, mu206, mm207, mu207, mm208, mu208, mm209, mu209, mm210, mu210, mm211, mu211, mm212, mu212, mm213, mu213, mm214, mu214, mm215, mu215, mm216, mu216, mm217, mu217, mm218, mu218, mm219, mu219, mm220, mu220, mm221, mu221, mm222, mu222, mm223, mu223, mm224, mu224, mm225, mu225, mm226, mu226, mm227, mu227, mm228, mu228, mm229, mu229, mm230, mu230]
    generalize hz3 : va_up _ 224 _ = Z3
    have q199 : Z3 199 = upd (X2 199) 52 (nI 0) := by rw [← hz3]; simp [va_up]
    have qo : ∀ k, ¬ k = 199 → ¬ k = 209 → ¬ k = 224 → Z3 k = X2 k := fun k a b c => by rw [← hz3]; simp [va_up, a, b, c]
    have q209 : Z3 209 = va_cpy (X2 201) (X2 209) 132 0 125 := by rw [← hz3]; simp [va_up]
    have q224 : Z3 224 0 = nI 0 ∧ Z3 224 1 = nI 0 := by rw [← hz3]; simp [va_up, upd]
    have hL209 : LSx (fun i => Z3 209 (i - 132)) l := hL2.kept (fun i h1 h2 => by
      rw [q209, pk_cpy_in (by omega) (by omega)]
      exact congrArg (X2 201) (by omega))
    have e201 : Z3 201 = X2 201 := qo 201 (by omega) (by omega) (by omega)
    refine rlv_loop (d := d) (k := k) (P := P) (S := S) (B := B) (m := m) hC hk.1 hk.2.1 hB hm m 0 B0 T Z3 l (nI 0) (nI 0) (by omega) (by rw [e201]; exact hL2) (by rw [e201]; exact hk2) hI (by omega) (by omega) (by rw [qo 203 (by omega) (by omega) (by omega)]; exact hc) (by rw [q199, pk_un (by omega)]; exact b51) (by rw [q199]; simp [upd]) q224.1 q224.2 (by rw [e201]; exact Int32.sub_self _) (fun X4 v4 hL4 g4 f0 f1' f52 fs => ?_)
    have x133 : X4 201 133 - X2 201 133 = (liveR k P B m 0 l (nI 0) (nI 0)).2.2.2.2.1 := fs
    have hq30 := (liveR_q (k := k) (P := P) (B := B) m 0 l (nI 0) (nI 0)).2
    have o28 : X4 199 28 = nI m0 := by rw [g4.2.2 28 (by omega) (by omega), q199, pk_un (by omega), w2.2.2.1 28 (by omega) (by omega) (by omega) (by omega) (by omega)]; exact h28
    have o208 : X4 208 = X 208 := by rw [g4.1 208 (by omega) (by omega) (by omega) (by omega), qo 208 (by omega) (by omega) (by omega), w2.1 208 (by omega) (by omega)]
    have o209 : X4 209 = Z3 209 := g4.1 209 (by omega) (by omega) (by omega) (by omega)
    have hbv : ∀ X', (∀ k, ¬ k = 199 → ¬ k = 201 → ¬ k = 208 → ¬ k = 224 → X' k = X4 k) → (∀ i, i < 132 ∨ 257 ≤ i → X' 201 i = X4 201 i) → (∀ j, ¬ j = 28 → ¬ j = 54 → X' 199 j = X4 199 j) → X' 199 54 = nI 1 → BV X Y X' Y2 := by
      intro X' a b c e
      refine ⟨fun k k1 k2 k3 k4 k5 k6 k7 => ?_, fun i hi => ?_, w2.2.1, fun j j0 j1 j2 j3 j4 j5 j6 j7 j8 => ?_, ?_, ?_, e⟩
      · rw [a k k1 k2 k5 k7, g4.1 k k1 k2 k4 k7, qo k k1 k6 k7, w2.1 k k1 k3]
      · rw [b i hi, g4.2.1 i hi, e201, w2.1 201 (by omega) (by omega)]
      · rw [c j j5 j8, g4.2.2 j j4 j7, q199, pk_un j7, w2.2.2.1 j j0 j1 j2 j3 j6]
      · rw [c 0 (by omega) (by omega), g4.2.2 0 (by omega) (by omega), q199, pk_un (by omega), w2.2.2.2.1]
      · rw [c 2 (by omega) (by omega), g4.2.2 2 (by omega) (by omega), q199, pk_un (by omega), w2.2.2.2.2]
    have o15 : X4 199 15 = nI 0 := by rw [g4.2.2 15 (by omega) (by omega), q199, pk_un (by omega)]; exact k15
    have hq2 := hQ2 m B es hm hB
    clear hQ1 hQ2
    generalize liveR k P B m 0 l (nI 0) (nI 0) = LRR at *
    simp (disch := omega) [w271_184, x271_185, w271_188, w271_189, x271_190, w271_193, w271_196, w271_197, w271_198, w271_199, w271_200, x271_201, w271_204, w271_205, x271_206, w271_209, w271_210, w271_211, x271_212 (v := nI 0) (Or.inl rfl), x271_212 (v := nI 1) (Or.inr rfl), w271_215, w271_216, w271_217, w271_273, w271_274, w271_277, rt271, aw_st, ai_cls, ai_len, ai_p, ai_sw, ai_m, ai_c, ai_at, ai_isI, ai_isJ, ai_isA, ai_ld, ai_1i, ai_2i, ai_2l, ai_cn, ai_j, ai_set, ai_set2, ai_nl, ai_rs, ai_sm, Value.category, hk0, hk1, lits, litb, litm, litm2, List.getElem?_cons_zero, List.getElem?_cons_succ, or_n0, bit_r, fi0, fi1, fi2, fi3, nI_toInt, nI_add, pk_mul, nI_leI, nI_ltI, nI_eq, pk_sub, ib_nI, nI_clamp, va_up_self, va_up_ne, va_up_up, va_up_comm, pk_us, pk_un, upd_up, updL_up, pk_uLs, pk_uLn, b01_1, b01_0, b01_1s, b01_0s, or_b, mm200, mu200, mm201, mu201, mm202, mu202, mm203, mu203, mm204, mu204, mm205, mu205, mm206, mu206, mm207, mu207, mm208, mu208, mm209, mu209, mm210, mu210, mm211, mu211, mm212, mu212, mm213, mu213, mm214, mu214, mm215, mu215, mm216, mu216, mm217, mu217, mm218, mu218, mm219, mu219, mm220, mu220, mm221, mu221, mm222, mu222, mm223, mu223, mm224, mu224, mm225, mu225, mm226, mu226, mm227, mu227, mm228, mu228, mm229, mu229, mm230, mu230, mm224, mu224, mm201, x133, f52]
    generalize hz6 : va_up _ 224 _ = Z6
    have s199 : Z6 199 = upd (X4 199) 54 (nI 1) := by rw [← hz6]; simp [va_up]
    have so : ∀ k, ¬ k = 199 → ¬ k = 224 → Z6 k = X4 k := fun k a b => by rw [← hz6]; simp [va_up, a, b]
    have s224 : Z6 224 = upd (upd (X4 224) 2 LRR.2.2.2.2.1) 3 LRR.2.2.2.2.2 := by rw [← hz6]; simp [va_up]
    simp (disch := omega) [x271_278, w271_281, w271_282, rt271, aw_st, ai_cls, ai_len, ai_p, ai_sw, ai_m, ai_c, ai_at, ai_isI, ai_isJ, ai_isA, ai_ld, ai_1i, ai_2i, ai_2l, ai_cn, ai_j, ai_set, ai_set2, ai_nl, ai_rs, ai_sm, Value.category, hk0, hk1, lits, litb, litm, litm2, List.getElem?_cons_zero, List.getElem?_cons_succ, or_n0, bit_r, fi0, fi1, fi2, fi3, nI_toInt, nI_add, pk_mul, nI_leI, nI_ltI, nI_eq, pk_sub, ib_nI, nI_clamp, va_up_self, va_up_ne, va_up_up, va_up_comm, pk_us, pk_un, upd_up, updL_up, pk_uLs, pk_uLn, b01_1, b01_0, b01_1s, b01_0s, or_b, mm200, mu200, mm201, mu201, mm202, mu202, mm203, mu203, mm204, mu204, mm205, mu205, mm206, mu206, mm207, mu207, mm208, mu208, mm209, mu209, mm210, mu210, mm211, mu211, mm212, mu212, mm213, mu213, mm214, mu214, mm215, mu215, mm216, mu216, mm217, mu217, mm218, mu218, mm219, mu219, mm220, mu220, mm221, mu221, mm222, mu222, mm223, mu223, mm224, mu224, mm225, mu225, mm226, mu226, mm227, mu227, mm228, mu228, mm229, mu229, mm230, mu230, back_eq]
    refine hq2 _ Y2 (hbv _ (fun k a b c e => by rw [va_up_ne _ _ b, so k a e]) (fun i hi => by rw [va_up_self, pk_cpy_out (by omega), so 201 (by omega) (by omega)]) (fun j a b => by rw [va_up_ne _ _ (by omega), s199, pk_un b]) (by rw [va_up_ne _ _ (by omega), s199]; simp [upd])) (by rw [va_up_ne _ _ (by omega), s199, pk_un (by omega)]; exact o15) ?_ ?_ ?_ ?_
    · rw [va_up_ne _ _ (by omega), s224]
      refine ⟨?_, ?_, ?_, ?_⟩ <;> simp [upd, f0, f1']
    · rw [va_up_self]
      refine hL209.kept (fun i h1 h2 => ?_)
      rw [pk_cpy_in (by omega) (by omega), so 209 (by omega) (by omega), o209]
      exact congrArg (Z3 209) (by omega)
    · rw [va_up_ne _ _ (by omega), so 208 (by omega) (by omega), o208]; exact hU
    · rw [va_up_ne _ _ (by omega), s199, pk_un (by omega)]; exact o28
set_option maxHeartbeats 8000000 in
theorem rbook_1 {B0 T : Nat} (hR : ∀ k, k < 21 → Y 205 k = kl k) (hT : TB8 (X 200) t) (h2 : X 199 2 = nI n) (hn : n ≤ 940) (hN : RNM X Y nm P S) (hL : LSx (X 201) l) (hk : KS (X 201) k P S) (hC : CI k P S) (hI : LI l B0 T) (hB0 : B0 + 2970 < 2 ^ 29) (hT0 : T + 30 ≤ 33554431) (hU : US (X 208) m0 ls) (h28 : X 199 28 = nI m0) (hQ1 : ∀ e j, sBook (t, n, 500) nm P S 31 0 0 B00 = .inl (e, j) → ∀ X' Y', BW X Y X' Y' → X' 199 15 = nI e → Q [.int (mi2 - nI (cP (t, n, 500) j))] 231 sl (mem X' Y')) (hQ2 : ∀ m B, sBook (t, n, 500) nm P S 31 0 0 B00 = .inr (m, B) → m ≤ 30 → BB B m P S → ∀ X' Y', BV X Y X' Y' → X' 199 15 = nI 0 → bk4 (X' 224) (liveR k P B m 0 l (nI 0) (nI 0)) → LSx (X' 201) (liveR k P B m 0 l (nI 0) (nI 0)).2.2.2.1 → US (X' 208) (if (liveR k P B m 0 l (nI 0) (nI 0)).2.2.1 = 0 then m0 else pushN m0) (if (liveR k P B m 0 l (nI 0) (nI 0)).2.2.1 = 0 then ls else pushL m0 ls l) → X' 199 28 = nI (if (liveR k P B m 0 l (nI 0) (nI 0)).2.2.1 = 0 then m0 else pushN m0) → Q [.int (liveR k P B m 0 l (nI 0) (nI 0)).1] 231 sl (mem X' Y')) : aw ET G (d + 5) 271 0 [some (.ref 199), some (.int (nI 1)), none, none, none] [] 231 sl (mem X Y) Q := by
  have hin : inI (nI 0) (nI 1) (nI 1) = true := by decide
  simp (disch := omega) [w271_0, w271_1, x271_2, w271_5, w271_6, w271_7, x271_8, w271_11, w271_14, w271_17, w271_18, w271_19, x271_22, w271_25, w271_26, x271_27, w271_30, w271_31, x271_32, w271_35, x271_36, rt271, aw_st, ai_cls, ai_len, ai_p, ai_sw, ai_m, ai_c, ai_at, ai_isI, ai_isJ, ai_isA, ai_ld, ai_1i, ai_2i, ai_2l, ai_cn, ai_j, ai_set, ai_set2, ai_nl, ai_rs, ai_sm, Value.category, hk0, hk1, lits, litb, litm, litm2, List.getElem?_cons_zero, List.getElem?_cons_succ, or_n0, bit_r, fi0, fi1, fi2, fi3, nI_toInt, nI_add, pk_mul, nI_leI, nI_ltI, nI_eq, pk_sub, ib_nI, nI_clamp, va_up_self, va_up_ne, va_up_up, va_up_comm, pk_us, pk_un, upd_up, updL_up, pk_uLs, pk_uLn, b01_1, b01_0, b01_1s, b01_0s, or_b, mm200, mu200, mm201, mu201, mm202, mu202, mm203, mu203, mm204, mu204, mm205, mu205, mm206, mu206, mm207, mu207, mm208, mu208, mm209, mu209, mm210, mu210, mm211, mu211, mm212, mu212, mm213, mu213, mm214, mu214, mm215, mu215, mm216, mu216, mm217, mu217, mm218, mu218, mm219, mu219, mm220, mu220, mm221, mu221, mm222, mu222, mm223, mu223, mm224, mu224, mm225, mu225, mm226, mu226, mm227, mu227, mm228, mu228, mm229, mu229, mm230, mu230, isIn_eq, hin, taken_eq, h2]
  generalize hz : va_up X 199 _ = Z
  have z199 : ∀ j, ¬ j = 0 → ¬ (2 ≤ j ∧ j ≤ 5) → ¬ j = 15 → ¬ j = 51 → Z 199 j = X 199 j := fun j j1 j2 j3 j4 => by
    rw [← hz, va_up_self]
    simp (disch := omega) only [pk_un]
  have zo : ∀ k, ¬ k = 199 → Z k = X k := fun k hk => by rw [← hz, va_up_ne _ _ hk]
  have z0 : Z 199 0 = nI 0 := by rw [← hz, va_up_self]; simp [upd]
  have z2 : Z 199 2 = nI 0 := by rw [← hz, va_up_self]; simp [upd]
  have z3 : Z 199 3 = nI n := by rw [← hz, va_up_self]; simp [upd]
  have z4 : Z 199 4 = nI 0 := by rw [← hz, va_up_self]; simp [upd]
  have z5 : Z 199 5 = nI 500 := by rw [← hz, va_up_self]; simp [upd]
  have z15 : Z 199 15 = nI 0 := by rw [← hz, va_up_self]; simp [upd]
  have z51 : Z 199 51 = nI 0 := by rw [← hz, va_up_self]; simp [upd]
  have okc : OKr (t, n, 500) Z := ⟨by rw [zo 200 (by omega)]; exact hT, hn, by show 500 ≤ 940; omega⟩
  have hgo : ∀ (Q : List Value → Nat → Nat → ai_M → Prop), (∀ X' Y', HX Z Y X' Y' → RDR (t, n, 500) 0 (X' 199) (Y' 199) → X' 199 15 = Z 199 15 → Q [] 231 sl (mem X' Y')) → aw ET G (d + 4) 184 0 [some (.ref 199), none, none, none] [] 231 sl (mem Z Y) Q := by
    intro Q hq
    have := go_wp (G := G) (d := d + 3) (sl := sl) (Q := Q) (X := Z) (Y := Y) (c := (t, n, 500)) (i := 0) (F := Z 199) (W := Y 199) z3 z4 z5 okc (by show 0 ≤ n; omega) (fun F' W' r g w => hq _ _ (HX_F g.fe) (by rw [va_up_self, va_up_self]; exact r) (by rw [va_up_self]; exact g 15 (by omega) (by omega)))
    rw [va_id, va_id] at this
    exact this
  refine hgo _ (fun X1 Y1 y1 r1 f1 => ?_)
  have hft : ∀ X' Y', BZ X1 Y1 X' Y' → BW X Y X' Y' := fun X' Y' g => ⟨fun k k1 k2 => by rw [g.1 k k1 k2, y1.1 k k1, zo k k1], fun k k1 => by rw [g.2.1 k k1, y1.2.1 k k1], fun j j0 j1 j2 j3 j4 => by rw [g.2.2 j (by omega) j2 j3 j4, y1.2.2 j (by omega) j2 j3, z199 j j0 j1 (by omega) j4], by rw [g.2.2 0 (by omega) (by omega) (by omega) (by omega), y1.2.2 0 (by omega) (by omega) (by omega), z0], by rw [g.2.2 2 (by omega) (by omega) (by omega) (by omega), y1.2.2 2 (by omega) (by omega) (by omega), z2]⟩
  refine rbk_loop (d := d + 1) (c := (t, n, 500)) (nm := nm) (P := P) (S := S) 31 0 0 B00 X1 Y1 (by omega) (by omega) (fun k hk => by rw [y1.2.1 205 (by omega)]; exact hR k hk) (hN.cg (by rw [y1.1 201 (by omega), zo 201 (by omega)]) (y1.2.1 204 (by omega))) r1 (OKr_cg okc (y1.1 200 (by omega))) (by show 0 ≤ n; omega) (by rw [y1.2.2 51 (by omega) (by omega) (by omega), z51]) (fun q hq => by omega) (fun q hq => by omega) (fun e j es X' Y' g b15 b16 => ?_) (fun m B es hm hB X2 Y2 g2 hc b51 b15 => ?_)
  · exact hQ1 e j es X' Y' (hft X' Y' g) b15
  · have w2 := hft X2 Y2 g2
    have k15 : X2 199 15 = nI 0 := by rw [b15, f1, z15]
    have hL2 : LSx (X2 201) l := by rw [w2.1 201 (by omega) (by omega)]; exact hL
    have hk2 : KS (X2 201) k P S := by rw [w2.1 201 (by omega) (by omega)]; exact hk
    simp (disch := omega) [w271_83, x271_84, w271_87, w271_88, rt271, aw_st, ai_cls, ai_len, ai_p, ai_sw, ai_m, ai_c, ai_at, ai_isI, ai_isJ, ai_isA, ai_ld, ai_1i, ai_2i, ai_2l, ai_cn, ai_j, ai_set, ai_set2, ai_nl, ai_rs, ai_sm, Value.category, hk0, hk1, lits, litb, litm, litm2, List.getElem?_cons_zero, List.getElem?_cons_succ, or_n0, bit_r, fi0, fi1, fi2, fi3, nI_toInt, nI_add, pk_mul, nI_leI, nI_ltI, nI_eq, pk_sub, ib_nI, nI_clamp, va_up_self, va_up_ne, va_up_up, va_up_comm, pk_us, pk_un, upd_up, updL_up, pk_uLs, pk_uLn, b01_1, b01_0, b01_1s, b01_0s, or_b, mm200, mu200, mm201, mu201, mm202, mu202, mm203, mu203, mm204, mu204, mm205, mu205, mm206, mu206, mm207, mu207, mm208, mu208, mm209, mu209, mm210, mu210, mm211, mu211, mm212, mu212, mm213, mu213, mm214, mu214, mm215, mu215, mm216, mu216, mm217, mu217, mm218, mu218, mm219, mu219, mm220, mu220, mm221, mu221, mm222, mu222, mm223, mu223, mm224, mu224, mm225, mu225, mm226, mu226, mm227, mu227, mm228, mu228, mm229, mu229, mm230, mu230, tries_eq]
    rw [w271_89]
    simp (disch := omega) [w271_90, w271_91, w271_94, x271_95, w271_98, w271_99, w271_100, w271_101, w271_104, rt271, aw_st, ai_cls, ai_len, ai_p, ai_sw, ai_m, ai_c, ai_at, ai_isI, ai_isJ, ai_isA, ai_ld, ai_1i, ai_2i, ai_2l, ai_cn, ai_j, ai_set, ai_set2, ai_nl, ai_rs, ai_sm, Value.category, hk0, hk1, lits, litb, litm, litm2, List.getElem?_cons_zero, List.getElem?_cons_succ, or_n0, bit_r, fi0, fi1, fi2, fi3, nI_toInt, nI_add, pk_mul, nI_leI, nI_ltI, nI_eq, pk_sub, ib_nI, nI_clamp, va_up_self, va_up_ne, va_up_up, va_up_comm, pk_us, pk_un, upd_up, updL_up, pk_uLs, pk_uLn, b01_1, b01_0, b01_1s, b01_0s, or_b, mm200, mu200, mm201, mu201, mm202, mu202, mm203, mu203, mm204, mu204, mm205, mu205, mm206, mu206, mm207, mu207, mm208, mu208, mm209, mu209, mm210, mu210, mm211, mu211, mm212, mu212, mm213, mu213, mm214, mu214, mm215, mu215, mm216, mu216, mm217, mu217, mm218, mu218, mm219, mu219, mm220, mu220, mm221, mu221, mm222, mu222, mm223, mu223, mm224, mu224, mm225, mu225, mm226, mu226, mm227, mu227, mm228, mu228, mm229, mu229, mm230, mu230]
    rw [w271_89]
    simp (disch := omega) [w271_90, w271_91, w271_94, x271_95, w271_98, w271_99, w271_100, w271_101, w271_104, rt271, aw_st, ai_cls, ai_len, ai_p, ai_sw, ai_m, ai_c, ai_at, ai_isI, ai_isJ, ai_isA, ai_ld, ai_1i, ai_2i, ai_2l, ai_cn, ai_j, ai_set, ai_set2, ai_nl, ai_rs, ai_sm, Value.category, hk0, hk1, lits, litb, litm, litm2, List.getElem?_cons_zero, List.getElem?_cons_succ, or_n0, bit_r, fi0, fi1, fi2, fi3, nI_toInt, nI_add, pk_mul, nI_leI, nI_ltI, nI_eq, pk_sub, ib_nI, nI_clamp, va_up_self, va_up_ne, va_up_up, va_up_comm, pk_us, pk_un, upd_up, updL_up, pk_uLs, pk_uLn, b01_1, b01_0, b01_1s, b01_0s, or_b, mm200, mu200, mm201, mu201, mm202, mu202, mm203, mu203, mm204, mu204, mm205, mu205, mm206, mu206, mm207, mu207, mm208, mu208, mm209, mu209, mm210, mu210, mm211, mu211, mm212, mu212, mm213, mu213, mm214, mu214, mm215, mu215, mm216, mu216, mm217, mu217, mm218, mu218, mm219, mu219, mm220, mu220, mm221, mu221, mm222, mu222, mm223, mu223, mm224, mu224, mm225, mu225, mm226, mu226, mm227, mu227, mm228, mu228, mm229, mu229, mm230, mu230]
    rw [w271_89]
    simp (disch := omega) [w271_90, w271_91, w271_94, x271_95, w271_98, w271_99, w271_100, w271_101, w271_104, rt271, aw_st, ai_cls, ai_len, ai_p, ai_sw, ai_m, ai_c, ai_at, ai_isI, ai_isJ, ai_isA, ai_ld, ai_1i, ai_2i, ai_2l, ai_cn, ai_j, ai_set, ai_set2, ai_nl, ai_rs, ai_sm, Value.category, hk0, hk1, lits, litb, litm, litm2, List.getElem?_cons_zero, List.getElem?_cons_succ, or_n0, bit_r, fi0, fi1, fi2, fi3, nI_toInt, nI_add, pk_mul, nI_leI, nI_ltI, nI_eq, pk_sub, ib_nI, nI_clamp, va_up_self, va_up_ne, va_up_up, va_up_comm, pk_us, pk_un, upd_up, updL_up, pk_uLs, pk_uLn, b01_1, b01_0, b01_1s, b01_0s, or_b, mm200, mu200, mm201, mu201, mm202, mu202, mm203, mu203, mm204, mu204, mm205, mu205, mm206, mu206, mm207, mu207, mm208, mu208, mm209, mu209, mm210, mu210, mm211, mu211, mm212, mu212, mm213, mu213, mm214, mu214, mm215, mu215, mm216, mu216, mm217, mu217, mm218, mu218, mm219, mu219, mm220, mu220, mm221, mu221, mm222, mu222, mm223, mu223, mm224, mu224, mm225, mu225, mm226, mu226, mm227, mu227, mm228, mu228, mm229, mu229, mm230, mu230]
    rw [w271_89]
    simp (disch := omega) [w271_90, w271_91, w271_94, x271_95, w271_98, w271_99, w271_100, w271_101, w271_104, rt271, aw_st, ai_cls, ai_len, ai_p, ai_sw, ai_m, ai_c, ai_at, ai_isI, ai_isJ, ai_isA, ai_ld, ai_1i, ai_2i, ai_2l, ai_cn, ai_j, ai_set, ai_set2, ai_nl, ai_rs, ai_sm, Value.category, hk0, hk1, lits, litb, litm, litm2, List.getElem?_cons_zero, List.getElem?_cons_succ, or_n0, bit_r, fi0, fi1, fi2, fi3, nI_toInt, nI_add, pk_mul, nI_leI, nI_ltI, nI_eq, pk_sub, ib_nI, nI_clamp, va_up_self, va_up_ne, va_up_up, va_up_comm, pk_us, pk_un, upd_up, updL_up, pk_uLs, pk_uLn, b01_1, b01_0, b01_1s, b01_0s, or_b, mm200, mu200, mm201, mu201, mm202, mu202, mm203, mu203, mm204, mu204, mm205, mu205, mm206, mu206, mm207, mu207, mm208, mu208, mm209, mu209, mm210, mu210, mm211, mu211, mm212, mu212, mm213, mu213, mm214, mu214, mm215, mu215, mm216, mu216, mm217, mu217, mm218, mu218, mm219, mu219, mm220, mu220, mm221, mu221, mm222, mu222, mm223, mu223, mm224, mu224, mm225, mu225, mm226, mu226, mm227, mu227, mm228, mu228, mm229, mu229, mm230, mu230]
    rw [w271_89]
    simp (disch := omega) [w271_90, w271_91, w271_107, w271_108, x271_109, w271_112, x271_113, w271_116, w271_119, w271_120, w271_121, w271_122, w271_123, w271_124, rt271, aw_st, ai_cls, ai_len, ai_p, ai_sw, ai_m, ai_c, ai_at, ai_isI, ai_isJ, ai_isA, ai_ld, ai_1i, ai_2i, ai_2l, ai_cn, ai_j, ai_set, ai_set2, ai_nl, ai_rs, ai_sm, Value.category, hk0, hk1, lits, litb, litm, litm2, List.getElem?_cons_zero, List.getElem?_cons_succ, or_n0, bit_r, fi0, fi1, fi2, fi3, nI_toInt, nI_add, pk_mul, nI_leI, nI_ltI, nI_eq, pk_sub, ib_nI, nI_clamp, va_up_self, va_up_ne, va_up_up, va_up_comm, pk_us, pk_un, upd_up, updL_up, pk_uLs, pk_uLn, b01_1, b01_0, b01_1s, b01_0s, or_b, mm200, mu200, mm201, mu201, mm202, mu202, mm203, mu203, mm204, mu204, mm205, mu205, mm206, mu206, mm207, mu207, mm208, mu208, mm209, mu209, mm210, mu210, mm211, mu211, mm212, mu212, mm213, mu213, mm214, mu214, mm215, mu215, mm216, mu216, mm217, mu217, mm218, mu218, mm219, mu219, mm220, mu220, mm221, mu221, mm222, mu222, mm223, mu223, mm224, mu224, mm225, mu225, mm226, mu226, mm227, mu227, mm228, mu228, mm229, mu229, mm230, mu230]
    generalize hz3 : va_up _ 224 _ = Z3
    have q199 : Z3 199 = upd (X2 199) 52 (nI 0) := by rw [← hz3]; simp [va_up]
    have qo : ∀ k, ¬ k = 199 → ¬ k = 209 → ¬ k = 224 → Z3 k = X2 k := fun k a b c => by rw [← hz3]; simp [va_up, a, b, c]
    have q209 : Z3 209 = va_cpy (X2 201) (X2 209) 132 0 125 := by rw [← hz3]; simp [va_up]
    have q224 : Z3 224 0 = nI 0 ∧ Z3 224 1 = nI 0 := by rw [← hz3]; simp [va_up, upd]
    have hL209 : LSx (fun i => Z3 209 (i - 132)) l := hL2.kept (fun i h1 h2 => by
      rw [q209, pk_cpy_in (by omega) (by omega)]
      exact congrArg (X2 201) (by omega))
    have e201 : Z3 201 = X2 201 := qo 201 (by omega) (by omega) (by omega)
    refine rlv_loop (d := d) (k := k) (P := P) (S := S) (B := B) (m := m) hC hk.1 hk.2.1 hB hm m 0 B0 T Z3 l (nI 0) (nI 0) (by omega) (by rw [e201]; exact hL2) (by rw [e201]; exact hk2) hI (by omega) (by omega) (by rw [qo 203 (by omega) (by omega) (by omega)]; exact hc) (by rw [q199, pk_un (by omega)]; exact b51) (by rw [q199]; simp [upd]) q224.1 q224.2 (by rw [e201]; exact Int32.sub_self _) (fun X4 v4 hL4 g4 f0 f1' f52 fs => ?_)
    have x133 : X4 201 133 - X2 201 133 = (liveR k P B m 0 l (nI 0) (nI 0)).2.2.2.2.1 := fs
    have hq30 := (liveR_q (k := k) (P := P) (B := B) m 0 l (nI 0) (nI 0)).2
    have o28 : X4 199 28 = nI m0 := by rw [g4.2.2 28 (by omega) (by omega), q199, pk_un (by omega), w2.2.2.1 28 (by omega) (by omega) (by omega) (by omega) (by omega)]; exact h28
    have o208 : X4 208 = X 208 := by rw [g4.1 208 (by omega) (by omega) (by omega) (by omega), qo 208 (by omega) (by omega) (by omega), w2.1 208 (by omega) (by omega)]
    have o209 : X4 209 = Z3 209 := g4.1 209 (by omega) (by omega) (by omega) (by omega)
    have hbv : ∀ X', (∀ k, ¬ k = 199 → ¬ k = 201 → ¬ k = 208 → ¬ k = 224 → X' k = X4 k) → (∀ i, i < 132 ∨ 257 ≤ i → X' 201 i = X4 201 i) → (∀ j, ¬ j = 28 → ¬ j = 54 → X' 199 j = X4 199 j) → X' 199 54 = nI 1 → BV X Y X' Y2 := by
      intro X' a b c e
      refine ⟨fun k k1 k2 k3 k4 k5 k6 k7 => ?_, fun i hi => ?_, w2.2.1, fun j j0 j1 j2 j3 j4 j5 j6 j7 j8 => ?_, ?_, ?_, e⟩
      · rw [a k k1 k2 k5 k7, g4.1 k k1 k2 k4 k7, qo k k1 k6 k7, w2.1 k k1 k3]
      · rw [b i hi, g4.2.1 i hi, e201, w2.1 201 (by omega) (by omega)]
      · rw [c j j5 j8, g4.2.2 j j4 j7, q199, pk_un j7, w2.2.2.1 j j0 j1 j2 j3 j6]
      · rw [c 0 (by omega) (by omega), g4.2.2 0 (by omega) (by omega), q199, pk_un (by omega), w2.2.2.2.1]
      · rw [c 2 (by omega) (by omega), g4.2.2 2 (by omega) (by omega), q199, pk_un (by omega), w2.2.2.2.2]
    have o15 : X4 199 15 = nI 0 := by rw [g4.2.2 15 (by omega) (by omega), q199, pk_un (by omega)]; exact k15
    have hq2 := hQ2 m B es hm hB
    clear hQ1 hQ2
    generalize liveR k P B m 0 l (nI 0) (nI 0) = LRR at *
    simp (disch := omega) [w271_184, x271_185, w271_188, w271_189, x271_190, w271_193, w271_196, w271_197, w271_198, w271_199, w271_200, x271_201, w271_204, w271_205, x271_206, w271_209, w271_210, w271_211, x271_212 (v := nI 0) (Or.inl rfl), x271_212 (v := nI 1) (Or.inr rfl), w271_215, w271_216, w271_217, rt271, aw_st, ai_cls, ai_len, ai_p, ai_sw, ai_m, ai_c, ai_at, ai_isI, ai_isJ, ai_isA, ai_ld, ai_1i, ai_2i, ai_2l, ai_cn, ai_j, ai_set, ai_set2, ai_nl, ai_rs, ai_sm, Value.category, hk0, hk1, lits, litb, litm, litm2, List.getElem?_cons_zero, List.getElem?_cons_succ, or_n0, bit_r, fi0, fi1, fi2, fi3, nI_toInt, nI_add, pk_mul, nI_leI, nI_ltI, nI_eq, pk_sub, ib_nI, nI_clamp, va_up_self, va_up_ne, va_up_up, va_up_comm, pk_us, pk_un, upd_up, updL_up, pk_uLs, pk_uLn, b01_1, b01_0, b01_1s, b01_0s, or_b, mm200, mu200, mm201, mu201, mm202, mu202, mm203, mu203, mm204, mu204, mm205, mu205, mm206, mu206, mm207, mu207, mm208, mu208, mm209, mu209, mm210, mu210, mm211, mu211, mm212, mu212, mm213, mu213, mm214, mu214, mm215, mu215, mm216, mu216, mm217, mu217, mm218, mu218, mm219, mu219, mm220, mu220, mm221, mu221, mm222, mu222, mm223, mu223, mm224, mu224, mm225, mu225, mm226, mu226, mm227, mu227, mm228, mu228, mm229, mu229, mm230, mu230, mm224, mu224, mm201, x133, f52]
    generalize hz6 : va_up _ 224 _ = Z6
    have s199 : Z6 199 = upd (X4 199) 54 (nI 1) := by rw [← hz6]; simp [va_up]
    have so : ∀ k, ¬ k = 199 → ¬ k = 224 → Z6 k = X4 k := fun k a b => by rw [← hz6]; simp [va_up, a, b]
    have s224 : Z6 224 = upd (upd (X4 224) 2 LRR.2.2.2.2.1) 3 LRR.2.2.2.2.2 := by rw [← hz6]; simp [va_up]
    have s1 : Z6 224 1 = nI LRR.2.2.1 := by rw [s224, pk_un (by omega), pk_un (by omega)]; exact f1'
    have hbk : bk4 (Z6 224) LRR := by
      rw [s224]
      refine ⟨?_, ?_, ?_, ?_⟩ <;> simp [upd, f0, f1']
    by_cases q0 : LRR.2.2.1 = 0
    · rw [if_pos q0, if_pos q0] at hq2
      have := hq2 Z6 Y2 (hbv Z6 (fun k a b c e => so k a e) (fun i hi => by rw [so 201 (by omega) (by omega)]) (fun j a b => by rw [s199, pk_un b]) (by rw [s199]; simp [upd])) (by rw [s199, pk_un (by omega)]; exact o15) hbk (by rw [so 201 (by omega) (by omega)]; exact hL4) (by rw [so 208 (by omega) (by omega), o208]; exact hU) (by rw [s199, pk_un (by omega)]; exact o28)
      rw [q0] at s1
      simp (disch := omega) [w271_220, x271_221, w271_224, w271_225, w271_226, w271_273, w271_274, w271_281, w271_282, rt271, aw_st, ai_cls, ai_len, ai_p, ai_sw, ai_m, ai_c, ai_at, ai_isI, ai_isJ, ai_isA, ai_ld, ai_1i, ai_2i, ai_2l, ai_cn, ai_j, ai_set, ai_set2, ai_nl, ai_rs, ai_sm, Value.category, hk0, hk1, lits, litb, litm, litm2, List.getElem?_cons_zero, List.getElem?_cons_succ, or_n0, bit_r, fi0, fi1, fi2, fi3, nI_toInt, nI_add, pk_mul, nI_leI, nI_ltI, nI_eq, pk_sub, ib_nI, nI_clamp, va_up_self, va_up_ne, va_up_up, va_up_comm, pk_us, pk_un, upd_up, updL_up, pk_uLs, pk_uLn, b01_1, b01_0, b01_1s, b01_0s, or_b, mm200, mu200, mm201, mu201, mm202, mu202, mm203, mu203, mm204, mu204, mm205, mu205, mm206, mu206, mm207, mu207, mm208, mu208, mm209, mu209, mm210, mu210, mm211, mu211, mm212, mu212, mm213, mu213, mm214, mu214, mm215, mu215, mm216, mu216, mm217, mu217, mm218, mu218, mm219, mu219, mm220, mu220, mm221, mu221, mm222, mu222, mm223, mu223, mm224, mu224, mm225, mu225, mm226, mu226, mm227, mu227, mm228, mu228, mm229, mu229, mm230, mu230, mm224, s1]
      exact this
    · rw [if_neg q0, if_neg q0] at hq2
      simp (disch := omega) [w271_220, x271_221, w271_224, w271_225, w271_226, w271_229, x271_230, rt271, aw_st, ai_cls, ai_len, ai_p, ai_sw, ai_m, ai_c, ai_at, ai_isI, ai_isJ, ai_isA, ai_ld, ai_1i, ai_2i, ai_2l, ai_cn, ai_j, ai_set, ai_set2, ai_nl, ai_rs, ai_sm, Value.category, hk0, hk1, lits, litb, litm, litm2, List.getElem?_cons_zero, List.getElem?_cons_succ, or_n0, bit_r, fi0, fi1, fi2, fi3, nI_toInt, nI_add, pk_mul, nI_leI, nI_ltI, nI_eq, pk_sub, ib_nI, nI_clamp, va_up_self, va_up_ne, va_up_up, va_up_comm, pk_us, pk_un, upd_up, updL_up, pk_uLs, pk_uLn, b01_1, b01_0, b01_1s, b01_0s, or_b, mm200, mu200, mm201, mu201, mm202, mu202, mm203, mu203, mm204, mu204, mm205, mu205, mm206, mu206, mm207, mu207, mm208, mu208, mm209, mu209, mm210, mu210, mm211, mu211, mm212, mu212, mm213, mu213, mm214, mu214, mm215, mu215, mm216, mu216, mm217, mu217, mm218, mu218, mm219, mu219, mm220, mu220, mm221, mu221, mm222, mu222, mm223, mu223, mm224, mu224, mm225, mu225, mm226, mu226, mm227, mu227, mm228, mu228, mm229, mu229, mm230, mu230, mm224, s1, show ¬ LRR.2.2.1 ≤ 0 by omega]
      refine keep_wp (m := m0) (ls := ls) (l := LRR.2.2.2.1) (by rw [so 208 (by omega) (by omega), o208]; exact hU) (by rw [s199, pk_un (by omega)]; exact o28) (by rw [so 201 (by omega) (by omega)]; exact hL4) (fun u' hu => ?_)
      have hp : pushN m0 - 1 + 1 = pushN m0 := by unfold pushN; split <;> omega
      have hp7 : pushN m0 - 1 ≤ 7 := by have := hU.1; unfold pushN; split <;> omega
      simp (disch := omega) [w271_233, w271_234, rt271, aw_st, ai_cls, ai_len, ai_p, ai_sw, ai_m, ai_c, ai_at, ai_isI, ai_isJ, ai_isA, ai_ld, ai_1i, ai_2i, ai_2l, ai_cn, ai_j, ai_set, ai_set2, ai_nl, ai_rs, ai_sm, Value.category, hk0, hk1, lits, litb, litm, litm2, List.getElem?_cons_zero, List.getElem?_cons_succ, or_n0, bit_r, fi0, fi1, fi2, fi3, nI_toInt, nI_add, pk_mul, nI_leI, nI_ltI, nI_eq, pk_sub, ib_nI, nI_clamp, va_up_self, va_up_ne, va_up_up, va_up_comm, pk_us, pk_un, upd_up, updL_up, pk_uLs, pk_uLn, b01_1, b01_0, b01_1s, b01_0s, or_b, mm200, mu200, mm201, mu201, mm202, mu202, mm203, mu203, mm204, mu204, mm205, mu205, mm206, mu206, mm207, mu207, mm208, mu208, mm209, mu209, mm210, mu210, mm211, mu211, mm212, mu212, mm213, mu213, mm214, mu214, mm215, mu215, mm216, mu216, mm217, mu217, mm218, mu218, mm219, mu219, mm220, mu220, mm221, mu221, mm222, mu222, mm223, mu223, mm224, mu224, mm225, mu225, mm226, mu226, mm227, mu227, mm228, mu228, mm229, mu229, mm230, mu230]
      rw [bk_kept (M := pushN m0 - 1) hp7 125 0 _ (by rw [hp]; simp [va_up, upd]) rfl]
      simp (disch := omega) [w271_273, w271_274, w271_281, w271_282, rt271, aw_st, ai_cls, ai_len, ai_p, ai_sw, ai_m, ai_c, ai_at, ai_isI, ai_isJ, ai_isA, ai_ld, ai_1i, ai_2i, ai_2l, ai_cn, ai_j, ai_set, ai_set2, ai_nl, ai_rs, ai_sm, Value.category, hk0, hk1, lits, litb, litm, litm2, List.getElem?_cons_zero, List.getElem?_cons_succ, or_n0, bit_r, fi0, fi1, fi2, fi3, nI_toInt, nI_add, pk_mul, nI_leI, nI_ltI, nI_eq, pk_sub, ib_nI, nI_clamp, va_up_self, va_up_ne, va_up_up, va_up_comm, pk_us, pk_un, upd_up, updL_up, pk_uLs, pk_uLn, b01_1, b01_0, b01_1s, b01_0s, or_b, mm200, mu200, mm201, mu201, mm202, mu202, mm203, mu203, mm204, mu204, mm205, mu205, mm206, mu206, mm207, mu207, mm208, mu208, mm209, mu209, mm210, mu210, mm211, mu211, mm212, mu212, mm213, mu213, mm214, mu214, mm215, mu215, mm216, mu216, mm217, mu217, mm218, mu218, mm219, mu219, mm220, mu220, mm221, mu221, mm222, mu222, mm223, mu223, mm224, mu224, mm225, mu225, mm226, mu226, mm227, mu227, mm228, mu228, mm229, mu229, mm230, mu230]
      refine hq2 _ Y2 (hbv _ (fun k a b c e => ?_) (fun i hi => ?_) (fun j a b => ?_) ?_) ?_ ?_ ?_ ?_ ?_
      · simp [va_up, a, c]; exact so k a e
      · simp [va_up]; rw [so 201 (by omega) (by omega)]
      · simp [va_up, upd, a]; rw [s199, pk_un b]
      · simp [va_up, upd]; rw [s199]; simp [upd]
      · simp [va_up, upd]; rw [s199, pk_un (by omega)]; exact o15
      · simpa [va_up] using hbk
      · simp [va_up]; rw [so 201 (by omega) (by omega)]; exact hL4
      · simp only [va_up_self, va_up_ne _ _ (show ¬ 209 = 208 by omega), va_up_ne _ _ (show ¬ 209 = 199 by omega)]
        rw [so 209 (by omega) (by omega), o209]
        exact US_last hu hU.1 hL209
      · simp [va_up, upd]
end RBR
