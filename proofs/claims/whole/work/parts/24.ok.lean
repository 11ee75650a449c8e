/-! THE TABLES ARE RIGHT: all that the simulation asks, but the library's own -/
section ETO
/-- what holds of every state beside the tables' words: arrays of objects, nest mates, the script, the texts -/
def et_Ex (Sx : State → Prop) (b base L : Nat) (xs : Nat → Int32) (U : State) : Prop := va_AO "EarTown$Place" U ∧ va_AO "EarTown$Life" U ∧ (∀ c j mj na kd, et_pool c j = some (1, mj, na, kd) → kd = 3 ∨ kd = 4 → va_Nw (.methodLinkNest (et_on c) j (et_y mj) "EarTown") U) ∧ (va_X b L xs U U.heap ∧ b < base) ∧ Sx U
def et_tys (aC : Nat → ClassId) : List (ClassId × FieldType) := [(aC 0, .int), (aC 1, .byte), (aC 2, .boolean), (aC 3, .long), (aC 4, .object "EarTown$Place"), (aC 5, .object "EarTown$Life")]
/-- where the cells lie: those that were made in their order; the script; the text of words -/
def et_ad (base b w : Nat) (k : Nat) : Nat := if k = 1000000 then b else if k = 1000001 then w else base + k
theorem et_xw : (Cond.instanceMethod objectInit ∈ et_tb ∧ Cond.code objectInit ⟨#[0xb1]⟩ 1 none ∈ et_tb) ∧ (Cond.native arraycopyName ∈ et_tb ∧ Cond.static arraycopyName ∈ et_tb ∧ Cond.initialized "java/lang/System" ∈ et_tb) ∧ (Cond.arrayClass .int ∈ et_tb ∧ Cond.arrayClass .byte ∈ et_tb ∧ Cond.arrayClass .boolean ∈ et_tb ∧ Cond.arrayClass .long ∈ et_tb) := by
  have h := et_xok
  unfold et_xchk et_xP at h
  simp only [Bool.and_eq_true] at h
  obtain ⟨⟨⟨⟨⟨⟨⟨⟨a, b⟩, c⟩, d⟩, e⟩, f⟩, g⟩, h⟩, i⟩ := h
  exact ⟨⟨et_in_mem a, et_in_mem b⟩, ⟨et_in_mem c, et_in_mem d, et_in_mem e⟩, et_in_mem f, et_in_mem g, et_in_mem h, et_in_mem i⟩
theorem et_okM {Sx : State → Prop} {G : ai_G} {aC : Nat → ClassId} {base b w : Nat} : ai_okM ET G vwCl et_on et_tb (et_tys aC) (et_ad base b w) aC (et_Ex Sx b base G.2.1 G.2.2) base := by
  refine ⟨?_, ?_, ?_, ?_, ?_, ?_, ⟨rfl, rfl, rfl, rfl⟩, et_xw.2.2, ?_, ?_⟩
  · intro c j ci kf fin h hkf
    obtain ⟨pl, hp⟩ := et_pool_chk h
    simp only [et_pchk] at hp
    split at hp
    · rename_i C F N hC
      simp only [Bool.and_eq_true, decide_eq_true_eq] at hp
      obtain ⟨⟨⟨p1, p2⟩, p3⟩, p4⟩ := hp
      obtain ⟨c1, c2, c3, c4, c5, c6, c7⟩ := et_cls hC
      subst p1
      refine ⟨C, F, hC, c3, et_in_mem p3, c6, c7, fun z => ?_, fun z => ?_⟩
      · rw [z] at p4
        cases hf : (F kf).2.2.2 with
        | false => rfl
        | true => rw [hf] at p4; simp only [if_true] at p4; split at p4 <;> cases p4
      · rw [z] at p4
        cases hf : (F kf).2.2.2 with
        | false => rw [hf] at p4; simp at p4
        | true =>
          rw [hf] at p4
          simp only [if_true] at p4
          split at p4
          · exact ⟨rfl, by assumption⟩
          · cases p4
    · cases hp
  · intro c j ci a b h
    obtain ⟨pl, hp⟩ := et_pool_chk h
    simp only [et_pchk] at hp
    split at hp
    · rename_i C F N hC
      simp only [Bool.and_eq_true, decide_eq_true_eq] at hp
      obtain ⟨p1, p3⟩ := hp
      obtain ⟨c1, c2, c3, c4, c5, c6, c7⟩ := et_cls hC
      subst p1
      exact ⟨C, F, hC, c3, c6, et_in_mem p3, c4, c5⟩
    · cases hp
  · intro c j v a b h
    obtain ⟨pl, hp⟩ := et_pool_chk h
    exact et_in_mem hp
  · intro c j v a b h
    obtain ⟨pl, hp⟩ := et_pool_chk h
    exact et_in_mem hp
  · intro kd ci r h hr U hU
    have h' : et_kob kd = some ci := h
    unfold et_kob at h'
    split at h'
    · cases h'; cases hr; exact hU.1
    · cases h'; cases hr; exact hU.2.1
    · cases h'
  · intro kd ci h
    have h' : et_kob kd = some ci := h
    unfold et_kob at h'
    split at h'
    · cases h'; exact ⟨4, _, rfl, rfl⟩
    · cases h'; exact ⟨5, _, rfl, rfl⟩
    · cases h'
  · intro U hU
    exact ⟨hU.2.2.2.1.1, hU.2.2.2.1.2⟩
  · intro k hk
    show et_ad base b w k = base + k
    unfold et_ad
    rw [if_neg (by omega), if_neg (by omega)]
theorem et_code_mem (i : Nat) (h : i < 289) : Cond.code (et_y i) (et_cc i) (et_mx i) (et_rt i) ∈ et_tb := by
  have key : ∀ (ks : List (MethodName × ByteArray × Nat × Option FieldType)) (j : Nat), (∀ q ∈ ks, et_mk q ∈ lw_tbl) → et_codeL[i]? = ks[j]? → j < ks.length → Cond.code (et_y i) (et_cc i) (et_mx i) (et_rt i) ∈ et_tb := by
    intro ks j hk e hj
    have e2 : et_md i = ks[j] := by unfold et_md; rw [e, List.getElem?_eq_getElem hj]; rfl
    have : Cond.code (et_y i) (et_cc i) (et_mx i) (et_rt i) = et_mk ks[j] := by unfold et_y et_cc et_mx et_rt et_mk; rw [e2]
    rw [this]
    exact List.mem_filter.mpr ⟨hk _ (List.getElem_mem hj), rfl⟩
  have app : ∀ (A B : List (MethodName × ByteArray × Nat × Option FieldType)) (j : Nat), (A ++ B)[j]? = if j < A.length then A[j]? else B[j - A.length]? := by
    intro A B j
    by_cases hj : j < A.length
    · rw [if_pos hj, List.getElem?_append_left hj]
    · rw [if_neg hj, List.getElem?_append_right (by omega)]
  have l0 : et_k0.length = 40 := rfl
  have l1 : et_k1.length = 40 := rfl
  have l2 : et_k2.length = 40 := rfl
  have l3 : et_k3.length = 40 := rfl
  have l4 : et_k4.length = 40 := rfl
  have l5 : et_k5.length = 40 := rfl
  have l6 : et_k6.length = 40 := rfl
  by_cases h0 : i < 40
  · refine key (et_k0.take 40) (i - 0) (et_k_mem _ et_kok0) ?_ (by rw [List.length_take]; show i - 0 < min 40 et_k0.length; rw [l0]; omega)
    rw [List.getElem?_take_of_lt (by omega)]
    unfold et_codeL
    rw [app, if_pos (by rw [l0]; omega)]
    exact congrArg (fun q => et_k0[q]?) (by omega)
  by_cases h1 : i < 80
  · refine key (et_k1.take 40) (i - 40) (et_k_mem _ et_kok1) ?_ (by rw [List.length_take]; show i - 40 < min 40 et_k1.length; rw [l1]; omega)
    rw [List.getElem?_take_of_lt (by omega)]
    unfold et_codeL
    rw [app, if_neg (by rw [l0]; omega), l0]
    rw [app, if_pos (by rw [l1]; omega)]
  by_cases h2 : i < 120
  · refine key (et_k2.take 40) (i - 80) (et_k_mem _ et_kok2) ?_ (by rw [List.length_take]; show i - 80 < min 40 et_k2.length; rw [l2]; omega)
    rw [List.getElem?_take_of_lt (by omega)]
    unfold et_codeL
    rw [app, if_neg (by rw [l0]; omega), l0]
    rw [app, if_neg (by rw [l1]; omega), l1]
    rw [app, if_pos (by rw [l2]; omega)]
    exact congrArg (fun q => et_k2[q]?) (by omega)
  by_cases h3 : i < 160
  · refine key (et_k3.take 40) (i - 120) (et_k_mem _ et_kok3) ?_ (by rw [List.length_take]; show i - 120 < min 40 et_k3.length; rw [l3]; omega)
    rw [List.getElem?_take_of_lt (by omega)]
    unfold et_codeL
    rw [app, if_neg (by rw [l0]; omega), l0]
    rw [app, if_neg (by rw [l1]; omega), l1]
    rw [app, if_neg (by rw [l2]; omega), l2]
    rw [app, if_pos (by rw [l3]; omega)]
    exact congrArg (fun q => et_k3[q]?) (by omega)
  by_cases h4 : i < 200
  · refine key (et_k4.take 40) (i - 160) (et_k_mem _ et_kok4) ?_ (by rw [List.length_take]; show i - 160 < min 40 et_k4.length; rw [l4]; omega)
    rw [List.getElem?_take_of_lt (by omega)]
    unfold et_codeL
    rw [app, if_neg (by rw [l0]; omega), l0]
    rw [app, if_neg (by rw [l1]; omega), l1]
    rw [app, if_neg (by rw [l2]; omega), l2]
    rw [app, if_neg (by rw [l3]; omega), l3]
    rw [app, if_pos (by rw [l4]; omega)]
    exact congrArg (fun q => et_k4[q]?) (by omega)
  by_cases h5 : i < 240
  · refine key (et_k5.take 40) (i - 200) (et_k_mem _ et_kok5) ?_ (by rw [List.length_take]; show i - 200 < min 40 et_k5.length; rw [l5]; omega)
    rw [List.getElem?_take_of_lt (by omega)]
    unfold et_codeL
    rw [app, if_neg (by rw [l0]; omega), l0]
    rw [app, if_neg (by rw [l1]; omega), l1]
    rw [app, if_neg (by rw [l2]; omega), l2]
    rw [app, if_neg (by rw [l3]; omega), l3]
    rw [app, if_neg (by rw [l4]; omega), l4]
    rw [app, if_pos (by rw [l5]; omega)]
    exact congrArg (fun q => et_k5[q]?) (by omega)
  by_cases h6 : i < 280
  · refine key (et_k6.take 40) (i - 240) (et_k_mem _ et_kok6) ?_ (by rw [List.length_take]; show i - 240 < min 40 et_k6.length; rw [l6]; omega)
    rw [List.getElem?_take_of_lt (by omega)]
    unfold et_codeL
    rw [app, if_neg (by rw [l0]; omega), l0]
    rw [app, if_neg (by rw [l1]; omega), l1]
    rw [app, if_neg (by rw [l2]; omega), l2]
    rw [app, if_neg (by rw [l3]; omega), l3]
    rw [app, if_neg (by rw [l4]; omega), l4]
    rw [app, if_neg (by rw [l5]; omega), l5]
    rw [app, if_pos (by rw [l6]; omega)]
    exact congrArg (fun q => et_k6[q]?) (by omega)
  by_cases h7 : i < 289
  · refine key (et_k7.take 9) (i - 280) (et_k_mem _ et_kok7) ?_ (by rw [List.length_take]; show i - 280 < min 9 et_k7.length; rw [show et_k7.length = 10 from rfl]; omega)
    rw [List.getElem?_take_of_lt (by omega)]
    unfold et_codeL
    rw [app, if_neg (by rw [l0]; omega), l0]
    rw [app, if_neg (by rw [l1]; omega), l1]
    rw [app, if_neg (by rw [l2]; omega), l2]
    rw [app, if_neg (by rw [l3]; omega), l3]
    rw [app, if_neg (by rw [l4]; omega), l4]
    rw [app, if_neg (by rw [l5]; omega), l5]
    rw [app, if_neg (by rw [l6]; omega), l6]
    exact congrArg (fun q => et_k7[q]?) (by omega)
  omega
theorem et_okS {Sx : State → Prop} {base b L : Nat} {xs : Nat → Int32} (hSw : ∀ s U : State, s.WarmedH U.vm → (∀ q : Nat, q < base → U.heap[q]? = s.heap[q]?) → Sx s → Sx U) (hSc : ∀ U V : State, V.vm = U.vm → V.heap = U.heap → Sx U → Sx V) : ai_okS ET vwCl et_cc et_y et_on et_tb (et_Ex Sx b base L xs) base := by
  refine ⟨?_, ?_, ?_, ?_, ?_, ?_, ?_⟩
  · intro mi pc i len h
    have h' : et_dec mi pc = some (i, len) := h
    unfold et_dec at h'
    split at h'
    · rename_i x hx; cases h'; exact hx
    · cases h'
  · intro c j mj na kd h
    obtain ⟨pl, hp⟩ := et_pool_chk h
    simp only [et_pchk, Bool.and_eq_true, decide_eq_true_eq] at hp
    obtain ⟨⟨⟨⟨⟨p1, p2⟩, p3⟩, p4⟩, p5⟩, p6⟩ := hp
    have hm := et_mok mj p2
    have hcode := et_code_mem mj p2
    unfold et_mchk at hm
    split at hm
    · cases hm
    · rename_i q1 q2 q3 q4 hq
      rw [hq] at p4
      simp only [Option.any_some] at p4
      simp only [Bool.and_eq_true, decide_eq_true_eq] at hm
      obtain ⟨⟨⟨⟨⟨⟨⟨m1, m2⟩, m3⟩, m4⟩, m5⟩, m6⟩, m7⟩, m8⟩ := hm
      have inst : kd ≠ 1 → Cond.instanceMethod (et_y mj) ∈ et_tb ∧ (et_ini mj = true ∨ (Cond.selects (et_on (et_own mj)) (et_y mj) (et_y mj) ∈ et_tb ∧ (vwCl[et_own mj]?).map (fun q => q.1) = some (et_on (et_own mj)))) := by
        intro hk
        rw [if_neg (fun z => hk (p4.mpr z))] at m8
        simp only [Bool.and_eq_true, Bool.or_eq_true, decide_eq_true_eq] at m8
        refine ⟨et_in_mem m8.1, ?_⟩
        rcases m8.2 with z | z
        · exact Or.inl z
        · exact Or.inr ⟨et_in_mem z.1, z.2⟩
      have link : kd < 3 → Cond.methodLink (et_on c) j (et_y mj) ∈ et_tb := by
        intro hk
        rw [if_pos hk] at p3
        exact et_in_mem p3
      have virt : kd = 0 ∨ kd = 3 → Cond.instanceMethod (et_y mj) ∈ et_tb ∧ Cond.selects (et_on (et_own mj)) (et_y mj) (et_y mj) ∈ et_tb ∧ ∃ (F : u_T) (N : Nat), vwCl[et_own mj]? = some (et_on (et_own mj), F, N) := by
        intro hk
        obtain ⟨i1, i2⟩ := inst (by omega)
        have hni : ¬ et_ini mj = true := fun z => by have := p5.mpr z; omega
        rcases i2 with z | ⟨z1, z2⟩
        · exact absurd z hni
        · refine ⟨i1, z1, ?_⟩
          cases hv : vwCl[et_own mj]? with
          | none => rw [hv] at z2; cases z2
          | some q =>
            rw [hv] at z2
            obtain ⟨C, F, N⟩ := q
            cases z2
            exact ⟨F, N, rfl⟩
      have nest : kd = 3 ∨ kd = 4 → ∃ host : String, ∀ U, et_Ex Sx b base L xs U → va_Nw (.methodLinkNest (et_on c) j (et_y mj) host) U := fun hk => ⟨"EarTown", fun U hU => hU.2.2.1 c j mj na kd h hk⟩
      have m4' : (parseMethodDescriptor (et_y mj).desc).map (fun d => d.parameters.length) = some na := by rw [p1]; exact m4
      refine ⟨⟨m1, m2, m3, m4', hcode, et_in_mem m5, fun z => (m6 z).1⟩, fun hk => ?_, fun hk => ?_, fun hk => ?_, fun hk => ?_, fun hk => ?_⟩
      · obtain ⟨v1, v2, v3⟩ := virt (Or.inl hk)
        exact ⟨link (by omega), v1, v2, v3⟩
      · refine ⟨link (by omega), ?_⟩
        rw [if_pos (p4.mp hk)] at m8
        exact et_in_mem m8
      · have hi := p5.mp (Or.inl hk)
        exact ⟨link (by omega), (m6 hi).1, (inst (by omega)).1, (m6 hi).2⟩
      · obtain ⟨v1, v2, v3⟩ := virt (Or.inr hk)
        exact ⟨nest (Or.inl hk), v1, v2, v3⟩
      · have hi := p5.mp (Or.inr hk)
        exact ⟨nest (Or.inr hk), (m6 hi).1, (inst (by omega)).1, (m6 hi).2⟩
  · intro c j x y z h
    obtain ⟨pl, hp⟩ := et_pool_chk h
    exact ⟨et_in_mem hp, et_xw.1⟩
  · intro c j x y z h
    obtain ⟨pl, hp⟩ := et_pool_chk h
    exact ⟨et_in_mem hp, et_xw.2.1⟩
  · intro w hw
    have := (List.mem_filter.mp hw).2
    exact good_of_word this
  · intro s U hW hk hs
    obtain ⟨h1, h2, h3, ⟨h4, h5⟩, h6⟩ := hs
    exact ⟨h1.moved hW.alike, h2.moved hW.alike, fun c j mj na kd hp hkd => va_Nw.warmM hW (h3 c j mj na kd hp hkd), ⟨(h4.moved hW.alike).kept (hk b h5), h5⟩, hSw s U hW hk h6⟩
  · intro U V hv hh hs
    obtain ⟨h1, h2, h3, ⟨h4, h5⟩, h6⟩ := hs
    exact ⟨h1.moved (by rw [hv]; exact Vm.Alike.refl _), h2.moved (by rw [hv]; exact Vm.Alike.refl _), fun c j mj na kd hp hkd => va_Nw.same rfl hv.symm (h3 c j mj na kd hp hkd), ⟨(h4.moved (by rw [hv]; exact Vm.Alike.refl _)).kept (by rw [hh]), h5⟩, hSc U V hv hh h6⟩
end ETO
