/-! THE MACHINE DOES WHAT THE INTERPRETER DOES, VII: the theorem -/
section AIM
variable {p : Program} {l : Launch} {e : Env} {R : Room} {s : State} {m : MethodId} {args : Array Value} {below : List Frame} {meth : Method} {c : Code} {Q : State → Prop}
variable {T : ai_T} {G : ai_G} {cl : List vw_C} {cc : Nat → ByteArray} {yn : Nat → MethodName} {on : Nat → String} {tb : List Cond} {D : va_G} {tys : List (ClassId × FieldType)} {ad : Nat → Nat} {aC : Nat → ClassId} {Ex : State → Prop} {base mi n0 c0 l0 s0 : Nat}
variable {pc n sl d : Nat} {L : ai_L} {st : List Value} {M : ai_M} {cfg : ai_C} {k : Nat → ai_L → List Value → Nat → Nat → ai_M → Option ai_C} {cr : Nat → List Value → Nat → Nat → ai_M → Option ai_C}
/-- what the library's own do at a call -/
def ai_okH (T : ai_T) (cl : List vw_C) (cc : Nat → ByteArray) (on : Nat → String) (tb : List Cond) (D : va_G) (tys : List (ClassId × FieldType)) (ad : Nat → Nat) (Ex : State → Prop) (base : Nat) : Prop :=
  ∀ (p : Program) (l : Launch) (e : Env) (R : Room) (s : State) (m : MethodId) (args : Array Value) (below : List Frame) (meth : Method) (c : Code) (Q : State → Prop) (H : Heap) (locs : List Loc) (cells slots pc mi j id a b : Nat) (ls : Array Slot) (st st' : List Value), ai_Cx T cl cc on tb D tys Ex base mi p s m args meth c → ai_pool T (ai_own T mi) j = some (6, id, a, b) → (decode (cc mi) pc = .ok (.invokevirtual j, 3) ∨ decode (cc mi) pc = .ok (.invokestatic j, 3)) → ai_hook T id st = some st' → va_S (fun q => base ≤ q) s.heap H locs → ls.size = c.maxLocals → 1 ≤ R.frames → 60 ≤ R.locals → cells ≤ R.cells → slots ≤ R.slots → W p l e R s m args below meth c H locs cells slots Q (F0 m (pc + 3) ls (st'.map (ai_cv ad))) → W p l e R s m args below meth c H locs cells slots Q (F0 m pc ls (st.map (ai_cv ad)))
/-- the tables are right: calls -/
def ai_okS (T : ai_T) (cl : List vw_C) (cc : Nat → ByteArray) (yn : Nat → MethodName) (on : Nat → String) (tb : List Cond) (Ex : State → Prop) (base : Nat) : Prop :=
  (∀ mi pc i len, ai_dec T mi pc = some (i, len) → decode (cc mi) pc = .ok (i, len)) ∧
  (∀ c j mj na kd, ai_pool T c j = some (1, mj, na, kd) → ai_okC T cl cc yn on tb Ex c j mj na kd) ∧
  (∀ c j x y z, ai_pool T c j = some (4, x, y, z) → Cond.methodLink (on c) j objectInit ∈ tb ∧ Cond.instanceMethod objectInit ∈ tb ∧ Cond.code objectInit ⟨#[0xb1]⟩ 1 none ∈ tb) ∧
  (∀ c j x y z, ai_pool T c j = some (5, x, y, z) → Cond.methodLink (on c) j arraycopyName ∈ tb ∧ Cond.native arraycopyName ∈ tb ∧ Cond.static arraycopyName ∈ tb ∧ Cond.initialized "java/lang/System" ∈ tb) ∧
  (∀ w ∈ tb, (w.onTables && w.keeps) = true ∨ ∃ ty, w = .arrayClass ty) ∧
  (∀ s U : State, s.WarmedH U.vm → (∀ q : Nat, q < base → U.heap[q]? = s.heap[q]?) → Ex s → Ex U) ∧
  (∀ U V : State, V.vm = U.vm → V.heap = U.heap → Ex U → Ex V)
theorem ai_sm_map {ad : Nat → Nat} {st : List Value} : ((st.map (ai_cv ad)).map fun v => v.category).sum = ai_sm st := by
  unfold ai_sm
  rw [List.map_map]
  congr 1
  apply List.map_congr_left
  intro v _
  exact ai_cv_cat ad v
theorem ai_this_of {T : ai_T} {n : Nat} {M : ai_M} {mj na : Nat} {st : List Value} (h : ai_this T n M mj na st = true) : ∃ (o : Nat) (rest fs : List Value), st = st.take na ++ .ref o :: rest ∧ o < n ∧ M o = .inr (ai_own T mj, fs) ∧ st.drop na = .ref o :: rest := by
  unfold ai_this at h
  split at h
  · rename_i o rest hd
    simp only [Bool.and_eq_true, decide_eq_true_eq] at h
    obtain ⟨h1, h2⟩ := h
    split at h2
    · rename_i ci fs hM
      refine ⟨o, rest, fs, ?_, h1, ?_, hd⟩
      · rw [← hd, List.take_append_drop]
      · rw [hM, of_decide_eq_true h2]
    · cases h2
  · cases h
set_option maxHeartbeats 8000000 in
theorem ai_c_sim (hok : ai_okM T G cl on tb tys ad aC Ex base) (hokS : ai_okS T cl cc yn on tb Ex base) (hH : ai_okH T cl cc on tb D tys ad Ex base) (hC : ai_Cx T cl cc on tb D tys Ex base mi p s m args meth c) {i : Instr} (hdg : decode (cc mi) pc = .ok (i, ai_len i))
    (hfr : d + 1 ≤ R.frames) (hlo : 60 * (d + 1) ≤ R.locals) (hroom : c0 + cfg.2.2.2.1 ≤ R.cells + n0 ∧ s0 + cfg.2.2.2.2.1 ≤ R.slots + l0)
    (hcr : ai_Cr l T G cl cc on tb D tys ad aC Ex base d cr)
    (hk : ∀ (pc' : Nat) (L' : ai_L) (st' : List Value) (n' sl' : Nat) (M' : ai_M), k pc' L' st' n' sl' M' = some cfg → ai_Go p l e R s m args below meth c Q D cl ad aC base (ai_mx T mi) n0 c0 l0 s0 G.1 (pc', L', st', n', sl', M') ∧ n' ≤ cfg.2.2.2.1 ∧ sl' ≤ cfg.2.2.2.2.1)
    (h : ai_c T G (ai_own T mi) i pc L st n sl M cr k = some cfg) : ai_Go p l e R s m args below meth c Q D cl ad aC base (ai_mx T mi) n0 c0 l0 s0 G.1 (pc, L, st, n, sl, M) ∧ n ≤ cfg.2.2.2.1 ∧ sl ≤ cfg.2.2.2.2.1 := by
  obtain ⟨okF, okN, ok7, ok8, ok3, okk, ⟨ty0, ty1, ty2, ty3⟩, ⟨ar0, ar1, ar2, ar3⟩, okX, had⟩ := hok
  obtain ⟨hdec, okC, ok4, ok5, htb, hExW, hExC⟩ := hokS
  obtain ⟨hx, hb, hml, hown, hini, hts, hK, hEx, hbase⟩ := id hC
  have hbl : ∀ (n : Nat) (M : ai_M) (vs : List Value), FrameBlind (ai_Pc G cl D tys ad aC Ex base n M vs) := by
    intro n M vs a U g mk q
    obtain ⟨q0, q1, q2, q3, q4⟩ := q
    exact ⟨q0, va_K.moved (u := U) (U := U.calling g mk a) (Vm.Alike.refl U.vm) q1, hExC U _ rfl rfl q2, q3, q4⟩
  have hpre : ∀ (n : Nat) (M : ai_M) (vs : List Value) (H : Heap) (locs : List Loc), va_P D cl (ai_w ad aC n M) H → va_S (fun q => base ≤ q) s.heap H locs → (G.1 = true → H.size = base + n) → n ≤ 900000 → ∀ U : State, U.heap = H → s.WarmedH U.vm → ai_Pc G cl D tys ad aC Ex base n M vs (vs.map (ai_cv ad)).toArray U := by
    intro n M vs H locs hP hS hg hn U hU hW
    refine ⟨rfl, va_K.moved hW.alike hK, hExW s U hW (fun q hq => ?_) hEx, ?_, ?_, ?_, hn⟩
    · rw [hU]
      exact hS.2.1 q (Nat.lt_of_lt_of_le hq hbase) (Nat.not_le.mpr hq)
    · rw [hU]; exact Nat.le_trans hbase hS.1
    · rw [hU]; exact hP
    · rw [hU]; exact hg
  have hcb : ∀ (c j mj na kd mc ms : Nat), ai_okC T cl cc yn on tb Ex c j mj na kd → ai_mx T mj ≤ 41 → (ai_rm d mc ms).cells = mc ∧ (ai_rm d mc ms).slots = ms ∧ (ai_rm d mc ms).frames + 1 ≤ R.frames ∧ 8 + (ai_mx T mj + 11) + (ai_rm d mc ms).locals ≤ R.locals ∧ (∀ w ∈ (Cond.code (yn mj) (cc mj) (ai_mx T mj) (ai_rt T mj) :: tb), ∀ (a' : Array Value) (U : State), s.WarmedH U.vm → w.before a' U = true) ∧ Cond.code (yn mj) (cc mj) (ai_mx T mj) (ai_rt T mj) ∈ (Cond.code (yn mj) (cc mj) (ai_mx T mj) (ai_rt T mj) :: tb) ∧ (Cond.code (yn mj) (cc mj) (ai_mx T mj) (ai_rt T mj)).before args s = true ∧ (Cond.initialized (yn mj).cls).before args s = true ∧ ((yn mj).cls ≠ "java/lang/invoke/MethodHandle" ∧ (yn mj).cls ≠ "java/lang/invoke/VarHandle") ∧ (∀ sig, parseMethodDescriptor (yn mj).desc = some sig → na = sig.parameters.length) := by
    intro c j mj na kd mc ms hoc hmx
    obtain ⟨⟨y1, y2, y3, y4, y5, y6, y7⟩, -⟩ := hoc
    refine ⟨rfl, rfl, hfr, ?_, ?_, List.mem_cons_self, hts _ y5, hts _ y6, y3, fun sig hsig => ?_⟩
    · show 8 + (ai_mx T mj + 11) + 60 * d ≤ R.locals
      omega
    · refine pay_in hts (fun w hw => ?_)
      rcases List.mem_cons.mp hw with rfl | hw
      · exact ⟨y5, htb _ y5⟩
      · exact ⟨hw, htb _ hw⟩
    · rw [hsig] at y4
      exact (Option.some.inj y4).symm
  have hmono : ∀ {a b : Nat}, a + n0 = c0 + n → b + l0 = s0 + sl → n ≤ cfg.2.2.2.1 → sl ≤ cfg.2.2.2.2.1 → a ≤ R.cells ∧ b ≤ R.slots := by
    intro a b h1 h2 h3 h4
    omega
  cases i <;> first | (exfalso; simp only [ai_c, reduceCtorEq] at h; done) | skip
  case invokevirtual j =>
    simp only [ai_c] at h
    split at h
    · rename_i mj na kd hp
      obtain ⟨⟨hkd, hth⟩, hh⟩ := ai_if_some h
      clear h
      obtain ⟨o, rest, fs, hst, ho, hM, hdr⟩ := ai_this_of hth
      have hoc := okC _ _ _ _ _ hp
      refine ai_go_sim (G := G) (yn := yn) hdec hoc.1.1 hoc.1.2.1 hoc.1.2.2.2.2.2.2 hroom hcr hk ?_ hh
      intro nn H locs ls cells slots mc ms n' M' r hnn hle hsm hmx hP hS hg hn hl hfit hMet
      have hk1 : ¬ kd = 1 := by omega
      rw [if_neg hk1] at hnn
      subst hnn
      have hna : na < st.length := by omega
      have htk : (st.take (na + 1)).reverse = .ref o :: (st.take na).reverse := by
        have : st.take (na + 1) = st.take na ++ [.ref o] := by
          rw [List.take_add_one]
          have : st[na]? = some (.ref o) := by
            have := congrArg (fun z => z[0]?) hdr
            simpa [List.getElem?_drop] using this
          simp [this]
        rw [this]; simp
      have hdp : st.drop (na + 1) = rest := by
        have := congrArg (fun z => z.drop 1) hdr
        simpa [List.drop_drop, Nat.add_comm] using this
      have hstk : (F0 m pc ls (st.map (ai_cv ad))).stack = ((st.take na).reverse.map (ai_cv ad)).reverse ++ .ref (ad o) :: (st.drop (na + 1)).map (ai_cv ad) := by
        show st.map (ai_cv ad) = _
        rw [hdp]
        conv => lhs; rw [hst]
        simp [ai_cv]
      have hlen : ((st.take na).reverse.map (ai_cv ad)).length = na := by simp; omega
      have hsm' : 2 * (F0 m pc ls (st.map (ai_cv ad))).monitorRoom + (((st.drop (na + 1)).map (ai_cv ad)).map fun v => v.category).sum ≤ 8 := lv_room (by rw [ai_sm_map]; exact hsm)
      have hw := ai_w_get (ad := ad) (aC := aC) (M := M) ho
      rw [hM] at hw
      obtain ⟨b1, b2, b3, b4, b5, b6, b7, b8, b9, b10⟩ := hcb _ j mj na kd mc ms hoc hmx
      have hvs : (st.take (na + 1)).reverse.map (ai_cv ad) = .ref (ad o) :: (st.take na).reverse.map (ai_cv ad) := by rw [htk]; rfl
      rw [hvs]
      have hpre' : ∀ U : State, U.heap = H → s.WarmedH U.vm → ai_Pc G cl D tys ad aC Ex base n M (st.take (na + 1)).reverse (Value.ref (ad o) :: (st.take na).reverse.map (ai_cv ad)).toArray U := by
        rw [← hvs]
        exact hpre n M _ H locs hP hS hg hn
      rcases hkd with hkd | hkd
      · obtain ⟨z1, z2, z3, F, N, z4⟩ := hoc.2.1 hkd
        exact va_runV (C := on (ai_own T mj)) (Ts := tb) ⟨hx, hb, hml, hown, hts⟩ hMet ⟨⟨b1, b2, b3, b4, b5, b6, b7, b8, b9, b10, hts _ z1⟩, hts _ z2, hts _ z3⟩ ⟨hbl _ _ _, va_recv hK hP z4 hw, hpre'⟩ rfl hlen hl.2.1 hstk hsm' hdg hfit
      · obtain ⟨⟨host, z1⟩, z2, z3, F, N, z4⟩ := hoc.2.2.2.2.1 hkd
        exact va_runVN (C := on (ai_own T mj)) (Ts := tb) (host := host) ⟨hx, hb, hml, hown, hts⟩ hMet ⟨⟨⟨b1, b2, b3, b4, b5, b6⟩, b7, b8, b9, b10, va_Nw.use rfl (z1 s hEx)⟩, hts _ z2, hts _ z3⟩ ⟨hbl _ _ _, va_recv hK hP z4 hw, hpre'⟩ rfl hlen hl.2.1 hstk hsm' hdg hfit
    · rename_i id a b hp
      split at h
      · rename_i st' hh
        obtain ⟨h1, h2, h3⟩ := hk _ _ _ _ _ _ h
        refine ⟨?_, h2, h3⟩
        intro H locs ls cells slots e1 e2 hP hS hg hn hl
        have hcs := hmono e1 e2 h2 h3
        exact hH p l e R s m args below meth c Q H locs cells slots pc mi j id a b ls st st' hC hp (Or.inl hdg) hh hS (hl.2.1.trans hml.symm) (by omega) (by omega) hcs.1 hcs.2 (h1 H locs ls cells slots e1 e2 hP hS hg hn hl)
      · cases h
    · cases h
  all_goals sorry
end AIM
