/-! CLASS AND REFERENCE: calls that change nothing -/
section STA
variable {G : ai_G} {sl n : Nat} {X : mX} {Y : mY}
/-- the same call of both: one answer, and what holds holds on -/
def PO (G : ai_G) (sl n mT mR : Nat) (LT LR : ai_L) (X : mX) (Y : mY) : Prop := aw ET G 60 mT 0 LT [] 231 sl (mem X Y) (fun r n1 sl1 M1 => n1 = 231 ∧ sl1 = sl ∧ ∃ v, r = [.int v] ∧ (∃ X1 Y1, M1 = mem X1 Y1) ∧ aw ET G 60 mR 0 LR [] 231 sl M1 (fun r2 n2 sl2 M2 => n2 = 231 ∧ sl2 = sl ∧ r2 = [.int v] ∧ ∃ X' Y', M2 = mem X' Y' ∧ WW (n + 1) X' Y'))
theorem WW.now (h : WW n X Y) : PLr (BN n) (TN' n) (X 201) (Y 204) (cv X 47) (lv X 61) (Y 48) (Y 51) (X 56) (X 57) (X 58) (X 59) := h.2.2.2.2.2.2.2.2.2.2.2.1
theorem fin_tz {v : Int32} (h : WW n X Y) : (231 = 231 ∧ sl = sl ∧ [Value.int v] = [Value.int v] ∧ ∃ X' Y', mem (tz X) Y = mem X' Y' ∧ WW (n + 1) X' Y') := ⟨rfl, rfl, rfl, _, _, rfl, WW_mono (WW_tz (v := 0) h)⟩
theorem s_fault (h : WW n X Y) : PO G sl n 56 199 [some (.ref 0)] [some (.ref 199)] X Y := by
  unfold PO
  rw [tfault_eq]
  refine ⟨rfl, rfl, _, rfl, ⟨_, _, rfl⟩, ?_⟩
  rw [fault_eq, ← h.2.1]
  exact fin_tz h
theorem s_owes {x : Int32} {y : Int32} (h : WW n X Y) : PO G sl n 57 205 [some (.ref 0), some (.int x), some (.int y)] [some (.ref 199), some (.int x), some (.int y)] X Y := by
  obtain ⟨P, S, nm, hk, hc, hl, hi, hnm, hs⟩ := h.now
  unfold PO
  rw [towes_eq hk.1 hk.2.2.1]
  refine ⟨rfl, rfl, _, rfl, ⟨_, _, rfl⟩, ?_⟩
  rw [owes_eq hl.1 hk]
  exact fin_tz h
theorem s_now {x : Int32} (h : WW n X Y) : PO G sl n 60 209 [some (.ref 0), some (.int x), none] [some (.ref 199), some (.int x), none, none, none, none] X Y := by
  obtain ⟨P, S, nm, hk, hc, hl, hi, hnm, hs⟩ := h.now
  unfold PO
  rw [tnow_eq hi.2.2.2.2]
  refine ⟨rfl, rfl, _, rfl, ⟨_, _, rfl⟩, ?_⟩
  rw [now_eq hl]
  exact fin_tz h
theorem s_why {x : Int32} {y : Int32} {z : Int32} (h : WW n X Y) : PO G sl n 66 216 [some (.ref 0), some (.int x), some (.int y), some (.int z)] [some (.ref 199), some (.int x), some (.int y), some (.int z)] X Y := by
  obtain ⟨P, S, nm, hk, hc, hl, hi, hnm, hs⟩ := h.now
  unfold PO
  rw [twhy_eq hk.1 hk.2.2.1]
  refine ⟨rfl, rfl, _, rfl, ⟨_, _, rfl⟩, ?_⟩
  rw [why_eq hl.1 hk]
  exact fin_tz h
theorem s_struck (h : WW n X Y) : PO G sl n 93 234 [some (.ref 0)] [some (.ref 199)] X Y := by
  unfold PO
  rw [tstruck_eq]
  refine ⟨rfl, rfl, _, rfl, ⟨_, _, rfl⟩, ?_⟩
  rw [struck_eq, ← h.2.2.1]
  exact fin_tz h
theorem s_ringAt {x : Int32} (h : WW n X Y) : PO G sl n 97 214 [some (.ref 0), some (.int x)] [some (.ref 199), some (.int x)] X Y := by
  obtain ⟨L, hL, e1, e2, e3⟩ := h.2.2.2.1
  have hv : (if pI L x = true then X 46 (iN x) else mi1) = (if pI L x = true then X 207 (iN x) else mi1) := by
    split
    · rename_i q
      obtain ⟨a, ha, rfl⟩ := (pI_nat (by omega)).mp q
      rw [iN_nI (by omega), e3 a ha]
    · rfl
  unfold PO
  rw [tringAt_eq hL e1]
  refine ⟨rfl, rfl, _, rfl, ⟨_, _, rfl⟩, ?_⟩
  rw [rringAt_eq hL e2, ← hv]
  exact fin_tz h
theorem s_next (h : WW n X Y) : PO G sl n 98 235 [some (.ref 0), none] [some (.ref 199), none] X Y := by
  obtain ⟨P, S, nm, hk, hc, hl, hi, hnm, hs⟩ := h.now
  unfold PO
  rw [tnext_eq hk.1 hk.2.2.1]
  refine ⟨rfl, rfl, _, rfl, ⟨_, _, rfl⟩, ?_⟩
  rw [next_eq hl.1 hk]
  exact fin_tz h
theorem s_with {x : Int32} (h : WW n X Y) : PO G sl n 104 241 [some (.ref 0), some (.int x)] [some (.ref 199), some (.int x)] X Y := by
  obtain ⟨PP, e1, e2, e3⟩ := h.2.2.2.2.1
  have hPP : PP ≤ 8 := e1.1
  have hv : (if pI PP x = true then X 37 (iN x) else mi1) = (if pI PP x = true then X 212 (iN x) else mi1) := by
    split
    · rename_i q
      obtain ⟨a, ha, rfl⟩ := (pI_nat (by omega)).mp q
      rw [iN_nI (by omega), e3 a ha]
    · rfl
  unfold PO
  rw [with_eq e1]
  refine ⟨rfl, rfl, _, rfl, ⟨_, _, rfl⟩, ?_⟩
  rw [rwith_eq e2, ← hv]
  exact fin_tz h
theorem s_price {x : Int32} (h : WW n X Y) : PO G sl n 110 243 [some (.ref 0), some (.int x)] [some (.ref 199), some (.int x)] X Y := by
  obtain ⟨PP, e1, e2, e3⟩ := h.2.2.2.2.2.1
  have hPP : PP ≤ 8 := e1.1
  have hv : (if pI PP x = true then X 39 (iN x) else mi1) = (if pI PP x = true then X 213 (iN x) else mi1) := by
    split
    · rename_i q
      obtain ⟨a, ha, rfl⟩ := (pI_nat (by omega)).mp q
      rw [iN_nI (by omega), (e3 a ha).1]
    · rfl
  unfold PO
  rw [price_eq e1]
  refine ⟨rfl, rfl, _, rfl, ⟨_, _, rfl⟩, ?_⟩
  rw [rprice_eq e2, ← hv]
  exact fin_tz h
theorem s_wants {x : Int32} (h : WW n X Y) : PO G sl n 111 244 [some (.ref 0), some (.int x)] [some (.ref 199), some (.int x)] X Y := by
  obtain ⟨PP, e1, e2, e3⟩ := h.2.2.2.2.2.1
  have hPP : PP ≤ 8 := e1.1
  have hv : (if pI PP x = true then X 40 (iN x) else mi1) = (if pI PP x = true then X 214 (iN x) else mi1) := by
    split
    · rename_i q
      obtain ⟨a, ha, rfl⟩ := (pI_nat (by omega)).mp q
      rw [iN_nI (by omega), (e3 a ha).2]
    · rfl
  unfold PO
  rw [wants_eq e1]
  refine ⟨rfl, rfl, _, rfl, ⟨_, _, rfl⟩, ?_⟩
  rw [rwants_eq e2, ← hv]
  exact fin_tz h
theorem s_saved {a : Int32} {g : Int32} {k : Int32} {m : Int32} {t : Int32} (h : WW n X Y) : PO G sl n 112 250 [some (.ref 0), some (.int a), some (.int g), some (.int k), some (.int m), some (.int t), none, none, none, none, none] [some (.ref 199), some (.int a), some (.int g), some (.int k), some (.int m), some (.int t), none, none, none] X Y := by
  unfold PO
  rw [saved_eq]
  refine ⟨rfl, rfl, _, rfl, ⟨_, _, rfl⟩, ?_⟩
  rw [rsaved_eq]
  exact fin_tz h
theorem s_sermon {x : Int32} {w : Int32} {z : Int32} (hn : n ≤ 512) (h : WW n X Y) : PO G sl n 116 251 [some (.ref 0), some (.int x), some (.int w), some (.int z), none, none, none] [some (.ref 199), some (.int x), some (.int w), some (.int z), none, none] X Y := by
  obtain ⟨P, S, nm, hk, hc, hl, hi, hnm, hs⟩ := h.now
  obtain ⟨⟨g, hg, hgk⟩, -, -, -, h5, h6, -⟩ := hc
  have hB : BN n < 2 ^ 26 := by unfold BN; omega
  unfold PO
  rw [tsermon_eq hk.1 hk.2.2.1]
  refine ⟨rfl, rfl, _, rfl, ⟨_, _, rfl⟩, ?_⟩
  rw [sermon_eq hl.1 hk hg hgk (B := BN n) (by omega) hi.nb]
  exact fin_tz h
theorem s_crowd {x : Int32} {z : Int32} (h : WW n X Y) : PO G sl n 117 252 [some (.ref 0), some (.int x), some (.int z), none, none] [some (.ref 199), some (.int x), some (.int z), none, none] X Y := by
  obtain ⟨P, S, nm, hk, hc, hl, hi, hnm, hs⟩ := h.now
  unfold PO
  rw [tcrowd_eq hk.1 hk.2.2.1]
  refine ⟨rfl, rfl, _, rfl, ⟨_, _, rfl⟩, ?_⟩
  rw [crowd_eq hl.1 hk]
  exact fin_tz h
theorem s_sold {x : Int32} {y : Int32} (hn : n ≤ 512) (h : WW n X Y) : PO G sl n 118 253 [some (.ref 0), some (.int x), some (.int y)] [some (.ref 199), some (.int x), some (.int y)] X Y := by
  obtain ⟨P, S, nm, hk, hc, hl, hi, hnm, hs⟩ := h.now
  obtain ⟨⟨g, hg, hgk⟩, -, -, -, h5, h6, -⟩ := hc
  have hT : TN' n ≤ 16777216 := by unfold TN'; omega
  unfold PO
  rw [tsold_eq hk.1 hk.2.1 hk.2.2.1 hk.2.2.2.1]
  refine ⟨rfl, rfl, _, rfl, ⟨_, _, rfl⟩, ?_⟩
  rw [sold_eq hl.1 hk (hi.sb hT hk.2.1 h5 h6)]
  exact fin_tz h
theorem s_best {x : Int32} (hn : n ≤ 512) (h : WW n X Y) : PO G sl n 120 255 [some (.ref 0), some (.int x), none, none, none, none] [some (.ref 199), some (.int x), none, none] X Y := by
  obtain ⟨P, S, nm, hk, hc, hl, hi, hnm, hs⟩ := h.now
  obtain ⟨⟨g, hg, hgk⟩, -, -, -, h5, h6, -⟩ := hc
  have hT : TN' n ≤ 16777216 := by unfold TN'; omega
  unfold PO
  rw [tbest_eq hk.1 hk.2.1 hk.2.2.1 hk.2.2.2.1]
  refine ⟨rfl, rfl, _, rfl, ⟨_, _, rfl⟩, ?_⟩
  rw [best_eq hl.1 hk (hi.sb hT hk.2.1 h5 h6)]
  exact fin_tz h
theorem rtalk_none {Q : List Value → Nat → Nat → ai_M → Prop} {d : Nat} {x y : Int32} (hm : X 199 44 = mi1) : aw ET G (d + 1) 262 0 [some (.ref 199), some (.int x), some (.int y)] [] 231 sl (mem X Y) Q = Q [.int mi1] 231 sl (mem (tz X) Y) := by
  have c : inI (nI 0) (X 199 44 - nI 1) x = false := by
    rw [hm]
    unfold inI
    rw [decide_eq_false_iff_not]
    intro q
    have h1 := Int32.le_iff_toInt_le.mp q.1
    have h2 := Int32.le_iff_toInt_le.mp q.2
    have e1 : (nI 0).toInt = 0 := by decide +kernel
    have e2 : (mi1 - nI 1).toInt = -2 := by decide +kernel
    omega
  unfold tz
  simp (disch := omega) [w262_0, w262_1, x262_2, w262_5, w262_6, w262_7, x262_8, w262_11, w262_12, x262_13, w262_16, w262_19, w262_20, w262_21, x262_22, w262_25, w262_28, w262_29, w262_30, w262_31, w262_34, x262_35, w262_38, w262_39, w262_40, w262_43, w262_44, w262_45, w262_48, x262_49, w262_52, w262_53, w262_54, w262_57, x262_58, w262_61, w262_62, w262_63, rt262, rt262, aw_st, ai_cls, ai_len, ai_p, ai_sw, ai_m, ai_c, ai_at, ai_isI, ai_isJ, ai_isA, ai_ld, ai_1i, ai_2i, ai_2l, ai_cn, ai_j, ai_set, ai_set2, ai_nl, ai_rs, ai_sm, Value.category, hk0, hk1, lits, litb, litm, litm2, List.getElem?_cons_zero, List.getElem?_cons_succ, or_n0, bit_r, fi0, fi1, fi2, fi3, nI_toInt, nI_add, pk_mul, nI_leI, nI_ltI, nI_eq, ib_nI, nI_clamp, va_up_self, va_up_ne, va_up_up, va_up_comm, pk_us, pk_un, upd_up, updL_up, pk_uLs, pk_uLn, b01_1, b01_0, b01_1s, b01_0s, or_b, mm200, mu200, mm201, mu201, mm202, mu202, mm203, mu203, mm204, mu204, mm205, mu205, mm206, mu206, mm207, mu207, mm208, mu208, mm209, mu209, mm210, mu210, mm211, mu211, mm212, mu212, mm213, mu213, mm214, mu214, mm215, mu215, mm216, mu216, mm217, mu217, mm218, mu218, mm219, mu219, mm220, mu220, mm221, mu221, mm222, mu222, mm223, mu223, mm224, mu224, mm225, mu225, mm226, mu226, mm227, mu227, mm228, mu228, mm229, mu229, mm230, mu230, isIn_eq, c]
theorem s_talk {x : Int32} {y : Int32} (h : WW n X Y) : PO G sl n 133 262 [some (.ref 0), some (.int x), some (.int y)] [some (.ref 199), some (.int x), some (.int y)] X Y := by
  unfold PO
  rcases h.2.2.2.2.2.2.1 with ⟨a1, a2⟩ | ⟨P, m, cd, a1, a2, a3, a4, a5, a6⟩
  · rw [ttalk_eq (P := 0) (m := 0) (cd := fun _ => 0) a1 (by omega) (fun q => absurd q (by omega)) (fun i hi => absurd hi (by omega))]
    refine ⟨rfl, rfl, _, rfl, ⟨_, _, rfl⟩, ?_⟩
    rw [rtalk_none a2]
    have e : talkV 0 0 (fun _ => 0) x y = mi1 := by
      unfold talkV
      have : pI 0 x = false := by
        cases q : pI 0 x
        · rfl
        · obtain ⟨p, hp, -⟩ := (pI_nat (by omega)).mp q
          omega
      rw [this]
      rfl
    rw [e]
    exact fin_tz h
  · rw [ttalk_eq a2 a1 a3 a4]
    refine ⟨rfl, rfl, _, rfl, ⟨_, _, rfl⟩, ?_⟩
    rw [rtalk_eq a5 a1, rtalkV_eq (P := P) (cd := cd) a1 a5 a6]
    exact fin_tz h
theorem s_most {x : Int32} (hn : n ≤ 512) (h : WW n X Y) : PO G sl n 140 269 [some (.ref 0), some (.int x), none, none, none, none] [some (.ref 199), some (.int x), none, none] X Y := by
  obtain ⟨P, S, nm, hk, hc, hl, hi, hnm, hs⟩ := h.now
  have hB : BN n < 2 ^ 26 := by unfold BN; omega
  unfold PO
  rw [tmost_eq hk.1 hk.2.2.1]
  refine ⟨rfl, rfl, _, rfl, ⟨_, _, rfl⟩, ?_⟩
  rw [most_eq hl.1 hk (hi.mb hB)]
  exact fin_tz h
theorem s_booked {x : Int32} (h : WW n X Y) : PO G sl n 154 275 [some (.ref 0), some (.int x)] [some (.ref 199), some (.int x)] X Y := by
  obtain ⟨b1, b2⟩ := h.2.2.2.2.2.2.2.1
  have e : toldF (X 30) x = rtoldF X x := by
    rcases b2 with b2 | ⟨r, b2⟩
    · exact told_same (r := (0, 0, 0, fun _ _ => 0, 0, 0)) b1 (Or.inl b2)
    · exact told_same b1 (Or.inr b2)
  unfold PO
  rw [tbooked_eq]
  refine ⟨rfl, rfl, _, rfl, ⟨_, _, rfl⟩, ?_⟩
  rw [rbooked_eq, ← e]
  exact fin_tz h
theorem s_count {x : Int32} (h : WW n X Y) : PO G sl n 172 288 [some (.ref 0), some (.int x)] [some (.ref 199), some (.int x)] X Y := by
  obtain ⟨P, S, nm, hk, hc, hl, hi, hnm, hs⟩ := h.now
  obtain ⟨m, t, hm, e1, e2, -⟩ := h.1
  have e3 : X 0 15 = X 199 2 := e1.trans e2.symm
  unfold PO
  rw [tcount_eq]
  refine ⟨rfl, rfl, _, rfl, ⟨_, _, rfl⟩, ?_⟩
  rw [count_eq hk, ← e3]
  exact fin_tz h
end STA
