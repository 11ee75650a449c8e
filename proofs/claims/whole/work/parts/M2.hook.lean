/-! THE LIBRARY'S OWN: the tables are right -/
section HKD
variable {base b w v L : Nat} {xs : Nat → Int32} {aC : Nat → ClassId} {D : va_G} {G : ai_G}
def kyT : String := "person owes story free false gift ruin hears tells day strike or and not ruined knows need ear debt credit place "
/-- what holds of every state: the text of words; what a throw asks for -/
def et_Sx (base w v : Nat) (E : State → Prop) (U : State) : Prop := vk_R "EarTown$Reader" 76 kyT w U ∧ tx_S base w v U ∧ E U
def hkT : List (Nat × Nat × Nat) := [(1, 63, 0), (3, 81, 0), (3, 92, 1), (7, 44, 1), (7, 76, 4), (7, 78, 2), (7, 84, 3), (9, 34, 1), (11, 341, 0)]
theorem hk_tab : (List.range 15).all (fun c => ((et_pL[c]?).getD []).all (fun e => decide (¬ e.2.1.1 = 6) || decide ((c, e.1, e.2.1.2.1) ∈ hkT))) = true := by decide +kernel
theorem pool6 {c j id x y : Nat} (h : et_pool c j = some (6, id, x, y)) : (c, j, id) ∈ hkT := by
  unfold et_pool at h
  cases hf : ((et_pL[c]?).getD []).find? (fun e => e.1 == j) with
  | none => rw [hf] at h; cases h
  | some q =>
    rw [hf] at h
    have hm := List.mem_of_find?_eq_some hf
    have hj : q.1 = j := by have := List.find?_some hf; simpa using this
    have hq : q.2.1 = (6, id, x, y) := by simpa using h
    have hc : c < 15 := by
      by_cases c15 : c < 15
      · exact c15
      · exfalso
        rw [List.getElem?_eq_none (by show et_pL.length ≤ c; have : et_pL.length = 15 := rfl; omega)] at hm
        cases hm
    have h1 := List.all_eq_true.mp (List.all_eq_true.mp hk_tab c (List.mem_range.mpr hc)) q hm
    rw [Bool.or_eq_true, decide_eq_true_eq, decide_eq_true_eq, hq, hj] at h1
    rcases h1 with h1 | h1
    · exact absurd rfl h1
    · exact h1
theorem ow_len : et_owL.length = 290 := by decide +kernel
theorem tab_own : ∀ e ∈ hkT, e.1 ∈ hkO := by decide
theorem hk_use {mi pc j len id x y : Nat} {i : Instr} (hd : decode (et_cc mi) pc = .ok (i, len)) (hn : notL i = false) (hp : et_pool (et_own mi) j = some (6, id, x, y)) : hkI mi pc = true := by
  have ho : et_own mi ∈ hkO := tab_own _ (pool6 hp)
  have hm : mi < 290 := by
    by_cases c : mi < 290
    · exact c
    · exfalso
      have e : et_own mi = 99 := by
        unfold et_own
        rw [List.getElem?_eq_none (by rw [ow_len]; omega)]
        rfl
      rw [e] at ho
      exact absurd ho (by decide)
  have h1 := List.all_eq_true.mp hk_own mi (List.mem_range.mpr hm)
  rw [Bool.or_eq_true, decide_eq_true_eq] at h1
  have hmem : mi ∈ hkM := by
    rcases h1 with h1 | h1
    · exact h1
    · rw [decide_eq_true ho] at h1
      cases h1
  obtain ⟨hlt, hop⟩ := dec_op hd hn
  have hb : (et_cc mi).data.toList[pc]? = some ((et_cc mi)[pc]) := by
    rw [Array.getElem?_toList]
    exact Array.getElem?_eq_getElem hlt
  have hcl : isCl ((et_cc mi)[pc]).toNat = true := by
    unfold isCl
    rcases hop with h | h | h <;> rw [h] <;> rfl
  have h2 := hkL_at _ 0 pc _ (hk_all mi hmem) hb hcl
  rw [Nat.zero_add] at h2
  exact h2
theorem et_okL {E : State → Prop} : ai_okL ET vwCl et_cc et_on et_tb D (et_tys aC) (et_ad base b w) (et_Ex (et_Sx base w v E) b base L xs) base := by
  intro p l e R s m args below meth c Q H locs cells slots pc mi j id x y ls st st' hC hp hd hh hS kk
  have hp' : et_pool (et_own mi) j = some (6, id, x, y) := hp
  have hk := hk_use hd rfl hp'
  unfold hkI at hk
  rw [hd] at hk
  (try dsimp only at hk)
  rw [hp'] at hk
  (try dsimp only at hk)
  simp only [Bool.and_eq_true, decide_eq_true_eq] at hk
  obtain ⟨rfl, ho, rfl⟩ := hk
  obtain ⟨hx, hb, hml, hown, hini, hts, hK, hEx, hbase⟩ := hC
  have hown' : s.vm.findClass "EarTown$Reader" = some m.cls := by
    have e : et_on (ai_own ET mi) = "EarTown$Reader" := by
      show et_on (et_own mi) = _
      rw [ho]
      rfl
    rw [← e]
    exact hown
  have hh' : some (Value.ref 1000001 :: st) = some st' := hh
  cases hh'
  exact va_ldcS hx hb hown' hEx.2.2.2.2.1 hd kk
theorem ib_of {x : Int32} {N : Nat} (h : ai_ib x N = true) : ∃ i, i < N ∧ x = nI i := by
  unfold ai_ib at h
  simp only [Bool.not_eq_true', Bool.or_eq_false_iff, decide_eq_false_iff_not] at h
  obtain ⟨i, hi, rfl⟩ := nI_of h.1
  refine ⟨i, ?_, rfl⟩
  have := h.2
  rw [nI_clamp (by omega)] at this
  omega
theorem et_okH {E : State → Prop} : ai_okH2 ET vwCl et_cc et_on et_tb D (et_tys aC) (et_ad base b w) (et_Ex (et_Sx base w v E) b base L xs) base := by
  intro p l e R s m args below meth c Q H locs cells slots pc mi j id x y ls st st' hC hp hd hh hS hls hfr hlo hcc hss kk
  have hp' : et_pool (et_own mi) j = some (6, id, x, y) := hp
  obtain ⟨hx, hb, hml, hown, hini, hts, hK, hEx, hbase⟩ := hC
  have hown' : s.vm.findClass (et_on (et_own mi)) = some m.cls := hown
  have htx : tx_S base w v s := hEx.2.2.2.2.2.1
  have hh' : et_hook id st = some st' := hh
  rcases hd with hd | hd
  · have hk := hk_use hd rfl hp'
    unfold hkI at hk
    rw [hd] at hk
    (try dsimp only at hk)
    rw [hp'] at hk
    (try dsimp only at hk)
    simp only [Bool.and_eq_true, Bool.or_eq_true, decide_eq_true_eq] at hk
    obtain ⟨ho, hk⟩ := hk
    rw [ho] at hown'
    have hown2 : s.vm.findClass "EarTown$Reader" = some m.cls := hown'
    rcases hk with ⟨rfl, rfl⟩ | ⟨rfl, rfl⟩
    · unfold et_hook at hh'
      split at hh' <;> first | contradiction | skip
      rename_i st0 hid
      split at hh'
      · rename_i hsm
        cases hh'
        have hr : ((st0.map (ai_cv (et_ad base b w))).map fun v => v.category).sum ≤ 8 := by rw [ai_sm_map]; exact hsm
        exact jd_V (As := []) (index := 78) (rest := st0.map (ai_cv (et_ad base b w))) m_len ⟨hx, hb, rfl, hown2, hts⟩ rfl jw536 jw15 jw533 jw534 jw535 (by decide) (by decide +kernel) ⟨by omega, by omega⟩ htx hbase hS hls hr ⟨hcc, hss⟩ hd kk
      · cases hh'
    · unfold et_hook at hh'
      split at hh' <;> first | contradiction | skip
      rename_i q st0 hid
      split at hh'
      · rename_i hsm
        cases hh'
        obtain ⟨i, hi, rfl⟩ := ib_of hsm.2
        rw [nI_clamp (by omega)] at kk
        have hr : ((st0.map (ai_cv (et_ad base b w))).map fun v => v.category).sum ≤ 8 := by rw [ai_sm_map]; exact hsm.1
        exact jd_V (As := [.int (nI i)]) (index := 84) (rest := st0.map (ai_cv (et_ad base b w))) (m_charAt hi) ⟨hx, hb, rfl, hown2, hts⟩ rfl jw546 jw15 jw543 jw544 jw545 (by decide) (show (parseMethodDescriptor yCharAt.desc).map (fun d => d.parameters.length) = some 1 by decide +kernel) ⟨by omega, by omega⟩ htx hbase hS hls hr ⟨hcc, hss⟩ hd kk
      · cases hh'
  · have hk := hk_use hd rfl hp'
    unfold hkI at hk
    rw [hd] at hk
    (try dsimp only at hk)
    rw [hp'] at hk
    (try dsimp only at hk)
    simp only [Bool.or_eq_true, decide_eq_true_eq] at hk
    have hT := pool6 hp'
    rcases hk with rfl | rfl
    · unfold et_hook at hh'
      split at hh' <;> first | contradiction | skip
      rename_i a1 a2 st0 hid
      split at hh'
      · rename_i hsm
        cases hh'
        have hr : ((st0.map (ai_cv (et_ad base b w))).map fun v => v.category).sum ≤ 8 := by rw [ai_sm_map]; exact hsm
        have hlink : Cond.methodLink (et_on (et_own mi)) j Lib.Math.max.name ∈ et_tb := by
          simp only [hkT, List.mem_cons, List.not_mem_nil, or_false, Prod.mk.injEq] at hT
          have hT3 : (et_own mi = 1 ∧ j = 63) ∨ (et_own mi = 3 ∧ j = 81) ∨ (et_own mi = 11 ∧ j = 341) := by omega
          rcases hT3 with ⟨q1, rfl⟩ | ⟨q1, rfl⟩ | ⟨q1, rfl⟩
          · rw [q1]; exact jw789
          · rw [q1]; exact jw825
          · rw [q1]; exact jw967
        exact va_mmax hx hb hls.symm hown' (hts _ hlink) (hts _ jw790) (hts _ jw14) (hts _ jw791) (by omega) (by omega) hcc hss hd kk
      · cases hh'
    · unfold et_hook at hh'
      split at hh' <;> first | contradiction | skip
      rename_i a1 a2 st0 hid
      split at hh'
      · rename_i hsm
        cases hh'
        have hr : ((st0.map (ai_cv (et_ad base b w))).map fun v => v.category).sum ≤ 8 := by rw [ai_sm_map]; exact hsm
        have hlink : Cond.methodLink (et_on (et_own mi)) j Lib.Math.min.name ∈ et_tb := by
          simp only [hkT, List.mem_cons, List.not_mem_nil, or_false, Prod.mk.injEq] at hT
          have hT3 : (et_own mi = 3 ∧ j = 92) ∨ (et_own mi = 7 ∧ j = 44) ∨ (et_own mi = 9 ∧ j = 34) := by omega
          rcases hT3 with ⟨q1, rfl⟩ | ⟨q1, rfl⟩ | ⟨q1, rfl⟩
          · rw [q1]; exact jw796
          · rw [q1]; exact jw503
          · rw [q1]; exact jw992
        exact va_mmin hx hb hls.symm hown' (hts _ hlink) (hts _ jw504) (hts _ jw14) (hts _ jw505) (by omega) (by omega) hcc hss hd kk
      · cases hh'
/-- all that the simulation asks -/
theorem et_OK {E : State → Prop} {l : Launch} (hEw : ∀ s U : State, s.WarmedH U.vm → (∀ q : Nat, q < base → U.heap[q]? = s.heap[q]?) → E s → E U) (hEc : ∀ U V : State, V.vm = U.vm → V.heap = U.heap → E U → E V) (hG : G.2 = (L, xs)) : ai_OK2 l ET G vwCl et_cc et_y et_on et_tb D (et_tys aC) (et_ad base b w) aC (et_Ex (et_Sx base w v E) b base L xs) base := by
  have hw : ∀ s U : State, s.WarmedH U.vm → (∀ q : Nat, q < base → U.heap[q]? = s.heap[q]?) → et_Sx base w v E s → et_Sx base w v E U := fun s U hW hk h => ⟨vk_R.warm hW h.1, tx_S.warm hW.alike hk h.2.1, hEw s U hW hk h.2.2⟩
  have hc : ∀ U V : State, V.vm = U.vm → V.heap = U.heap → et_Sx base w v E U → et_Sx base w v E V := fun U V hv hh h => ⟨vk_R.same hv h.1, tx_S.warm (by rw [hv]; exact Vm.Alike.refl _) (fun q _ => by rw [hh]) h.2.1, hEc U V hv hh h.2.2⟩
  have hM := et_okM (Sx := et_Sx base w v E) (G := G) (aC := aC) (base := base) (b := b) (w := w)
  rw [hG] at hM
  exact ⟨hM, et_okL, et_okS hw hc, et_okH⟩
end HKD
