/-! THE SIMULATION AGAIN, with room to spare for what the library does at a call -/
section SL18
variable {l : Launch} {T : ai_T} {G : ai_G} {cl : List vw_C} {cc : Nat → ByteArray} {yn : Nat → MethodName} {on : Nat → String} {tb : List Cond} {D : va_G} {tys : List (ClassId × FieldType)} {ad : Nat → Nat} {aC : Nat → ClassId} {Ex : State → Prop} {base : Nat}
def ai_rm2 (d mc ms : Nat) : Room := { frames := d + 8, cells := mc, slots := ms, locals := 60 * d + 100 }
set_option maxHeartbeats 4000000 in
theorem ai_met2 (hdec : ∀ mi pc i len, ai_dec T mi pc = some (i, len) → decode (cc mi) pc = .ok (i, len)) {mj d n sl : Nat} {vs : List Value} {M : ai_M} {pc' n' sl' : Nat} {L' : ai_L} {st' r : List Value} {M' : ai_M}
    (hy1 : (yn mj).cls = on (ai_own T mj)) (hy2 : plainName (yn mj).cls = true) (hy3 : ai_ini T mj = true → (yn mj).name = "<init>") (hlen : (ai_ar vs).length ≤ ai_mx T mj) (hn1 : n ≤ n') (hl1 : sl ≤ sl')
    (hr : ai_rs (ai_rt T mj) (ai_dec T mj pc') st' = some r)
    (sim : ∀ (p : Program) (e : Env) (R : Room) (s : State) (m : MethodId) (args : Array Value) (below : List Frame) (meth : Method) (c : Code) (Q : State → Prop) (n0 c0 l0 s0 : Nat), ai_Cx T cl cc on tb D tys Ex base mj p s m args meth c → d + 8 ≤ R.frames → 60 * d + 100 ≤ R.locals → c0 + n' ≤ R.cells + n0 ∧ s0 + sl' ≤ R.slots + l0 → ai_Go p l e R s m args below meth c Q D cl ad aC base (ai_mx T mj) n0 c0 l0 s0 G.1 (pc', L', st', n', sl', M') → ai_Go p l e R s m args below meth c Q D cl ad aC base (ai_mx T mj) n0 c0 l0 s0 G.1 (0, ai_en vs (ai_mx T mj), [], n, sl, M)) :
    Met l (yn mj) (Cond.code (yn mj) (cc mj) (ai_mx T mj) (ai_rt T mj) :: tb) (ai_rm2 d (n' - n) (sl' - sl)) (ai_Pc G cl D tys ad aC Ex base n M vs) (ai_Qc G cl D ad aC base n' M' r) (n' - n) (sl' - sl) (fun q => base ≤ q) := by
  refine Met.ofW (cc := cc mj) (maxL := ai_mx T mj) (ret := ai_rt T mj) hy2 rfl ?_
  intro p e s m args below meth c s₁ B hml hv
  obtain ⟨rfl, hK, hEx, hbase, hP, hg, hn9⟩ := hv
  have hts := atoms_spec (ws := Cond.code (yn mj) (cc mj) (ai_mx T mj) (ai_rt T mj) :: tb) B.pre
  have hown : s.vm.findClass (on (ai_own T mj)) = some m.cls := by rw [← hy1]; exact findClass_of_methodNamed B.named
  have hnm : meth.name = (yn mj).name := (name_of_methodNamed B.named B.method).1
  have hlocks := B.notSynchronized
  have hr0 := B.returns
  have hx := B.exec
  have hb := B.bytes
  rw [lg_entry_eq]
  refine sim p e _ s m _ below meth c _ n 0 sl 0 ⟨hx, hb, hml, hown, fun z => hnm.trans (hy3 z), fun w hw => hts w (List.mem_cons_of_mem _ hw), hK, hEx, hbase⟩ (Nat.le_refl (d + 8)) (Nat.le_refl (60 * d + 100)) ⟨?_, ?_⟩ ?_ s.heap [] _ 0 0 rfl rfl hP va_S.rf hg hn9 (ai_H_entry hlen)
  · show 0 + n' ≤ (n' - n) + n
    omega
  · show 0 + sl' ≤ (sl' - sl) + sl
    omega
  · intro H locs ls cells slots e1 e2 hP' hS' hg' hn' hl'
    have e1' : cells = n' - n := by simp only at e1; omega
    have e2' : slots = sl' - sl := by simp only at e2; omega
    subst e1'; subst e2'
    have hq : ∀ (o : Option Value), o = (r.map (ai_cv ad)).head? → ∀ t : State, t.heap = H → s.WarmedH t.vm → ai_Qc G cl D ad aC base n' M' r (vs.map (ai_cv ad)).toArray s (.returned o) t := by
      intro o ho t ht _
      exact ⟨⟨by rw [ho], by rw [ht]; exact hP', by rw [ht]; exact hg', hn'⟩, hS'.F ht⟩
    unfold ai_rs at hr
    split at hr
    · rename_i h1 h2
      cases hr
      exact W.vret hx hb (by rw [hr0, h1]) (hq _ rfl) hS'.2.2 (hdec _ _ _ _ h2)
    · rename_i h1 h2
      cases hr
      exact W.iret hx hb (by rw [hr0, h1]) (hq _ rfl) hS'.2.2 (hdec _ _ _ _ h2)
    · rename_i h1 h2
      split at hr
      · rename_i hz
        cases hr
        exact W.zret (ty := .boolean) hx hb (by rw [hr0, h1]) (by rcases hz with rfl | rfl <;> decide) (hq _ rfl) hS'.2.2 (hdec _ _ _ _ h2)
      · cases hr
    · rename_i h1 h2
      cases hr
      exact W.lret hx hb (by rw [hr0, h1]) (hq _ rfl) hS'.2.2 (hdec _ _ _ _ h2)
    · cases hr
end SL18
section SL19
variable {p : Program} {l : Launch} {e : Env} {R : Room} {s : State} {m : MethodId} {args : Array Value} {below : List Frame} {meth : Method} {c : Code} {Q : State → Prop}
variable {T : ai_T} {G : ai_G} {cl : List vw_C} {cc : Nat → ByteArray} {yn : Nat → MethodName} {on : Nat → String} {tb : List Cond} {D : va_G} {tys : List (ClassId × FieldType)} {ad : Nat → Nat} {aC : Nat → ClassId} {Ex : State → Prop} {base mi n0 c0 l0 s0 : Nat}
variable {pc n sl d : Nat} {L : ai_L} {st : List Value} {M : ai_M} {cfg : ai_C} {k : Nat → ai_L → List Value → Nat → Nat → ai_M → Option ai_C} {cr : Nat → List Value → Nat → Nat → ai_M → Option ai_C}
/-- what the callee's run gives -/
def ai_Cr2 (l : Launch) (T : ai_T) (G : ai_G) (cl : List vw_C) (cc : Nat → ByteArray) (on : Nat → String) (tb : List Cond) (D : va_G) (tys : List (ClassId × FieldType)) (ad : Nat → Nat) (aC : Nat → ClassId) (Ex : State → Prop) (base d : Nat) (cr : Nat → List Value → Nat → Nat → ai_M → Option ai_C) : Prop :=
  ∀ (mj : Nat) (vs : List Value) (n sl : Nat) (M : ai_M) (z : ai_C), cr mj vs n sl M = some z → n ≤ z.2.2.2.1 ∧ sl ≤ z.2.2.2.2.1 ∧ ∀ (p : Program) (e : Env) (R : Room) (s : State) (m : MethodId) (args : Array Value) (below : List Frame) (meth : Method) (c : Code) (Q : State → Prop) (n0 c0 l0 s0 : Nat), ai_Cx T cl cc on tb D tys Ex base mj p s m args meth c → d + 8 ≤ R.frames → 60 * d + 100 ≤ R.locals → c0 + z.2.2.2.1 ≤ R.cells + n0 ∧ s0 + z.2.2.2.2.1 ≤ R.slots + l0 → ai_Go p l e R s m args below meth c Q D cl ad aC base (ai_mx T mj) n0 c0 l0 s0 G.1 z → ai_Go p l e R s m args below meth c Q D cl ad aC base (ai_mx T mj) n0 c0 l0 s0 G.1 (0, ai_en vs (ai_mx T mj), [], n, sl, M)
set_option maxHeartbeats 4000000 in
theorem ai_go_sim2 (hdec : ∀ mi pc i len, ai_dec T mi pc = some (i, len) → decode (cc mi) pc = .ok (i, len)) {mj na kd : Nat} (hy1 : (yn mj).cls = on (ai_own T mj)) (hy2 : plainName (yn mj).cls = true) (hy3 : ai_ini T mj = true → (yn mj).name = "<init>")
    (hroom : c0 + cfg.2.2.2.1 ≤ R.cells + n0 ∧ s0 + cfg.2.2.2.2.1 ≤ R.slots + l0)
    (hcr : ai_Cr2 l T G cl cc on tb D tys ad aC Ex base d cr)
    (hk : ∀ (pc' : Nat) (L' : ai_L) (st' : List Value) (n' sl' : Nat) (M' : ai_M), k pc' L' st' n' sl' M' = some cfg → ai_Go p l e R s m args below meth c Q D cl ad aC base (ai_mx T mi) n0 c0 l0 s0 G.1 (pc', L', st', n', sl', M') ∧ n' ≤ cfg.2.2.2.1 ∧ sl' ≤ cfg.2.2.2.2.1)
    (hrun : ∀ (nn : Nat) (H : Heap) (locs : List Loc) (ls : Array Slot) (cells slots mc ms n' : Nat) (M' : ai_M) (r : List Value), nn = (if kd = 1 then na else na + 1) → nn ≤ st.length → ai_sm (st.drop nn) ≤ 8 → ai_mx T mj ≤ 41 → va_P D cl (ai_w ad aC n M) H → va_S (fun q => base ≤ q) s.heap H locs → (G.1 = true → H.size = base + n) → n ≤ 900000 → ai_H ad ls (ai_mx T mi) L → cells + mc ≤ R.cells ∧ slots + ms ≤ R.slots → Met l (yn mj) (Cond.code (yn mj) (cc mj) (ai_mx T mj) (ai_rt T mj) :: tb) (ai_rm2 d mc ms) (ai_Pc G cl D tys ad aC Ex base n M (st.take nn).reverse) (ai_Qc G cl D ad aC base n' M' r) mc ms (fun q => base ≤ q) → va_Run p l e R s m args below meth c H locs cells slots mc ms (F0 m pc ls (st.map (ai_cv ad))) ((st.drop nn).map (ai_cv ad)) (ai_Qc G cl D ad aC base n' M' r ((st.take nn).reverse.map (ai_cv ad)).toArray) (fun q => base ≤ q))
    (h : ai_go T mj na kd pc L st n sl M cr k = some cfg) : ai_Go p l e R s m args below meth c Q D cl ad aC base (ai_mx T mi) n0 c0 l0 s0 G.1 (pc, L, st, n, sl, M) ∧ n ≤ cfg.2.2.2.1 ∧ sl ≤ cfg.2.2.2.2.1 := by
  unfold ai_go at h
  dsimp only at h
  generalize hnn : (if kd = 1 then na else na + 1) = nn at h
  obtain ⟨⟨g1, g2, g3, g4⟩, h⟩ := ai_if_some h
  split at h
  · rename_i pc1 L1 st1 n1 sl1 M1 hc1
    split at h
    · rename_i r hrs
      obtain ⟨f1, f2, f3⟩ := hcr _ _ _ _ _ _ hc1
      simp only at f1 f2
      obtain ⟨h1, h2, h3⟩ := hk _ _ _ _ _ _ h
      refine ⟨?_, by omega, by omega⟩
      intro H locs ls cells slots e1 e2 hP hS hg hn hl
      simp only at e1 e2 hn
      have hM := ai_met2 (l := l) (T := T) (G := G) (cl := cl) (cc := cc) (yn := yn) (on := on) (tb := tb) (D := D) (tys := tys) (ad := ad) (aC := aC) (Ex := Ex) (base := base) hdec (mj := mj) (d := d) (n := n) (sl := sl) (vs := (st.take nn).reverse) (M := M) (n' := n1) (sl' := sl1) (L' := L1) (M' := M1) hy1 hy2 hy3 g3 f1 f2 hrs f3
      have hfit : cells + (n1 - n) ≤ R.cells ∧ slots + (sl1 - sl) ≤ R.slots := by omega
      refine ai_after (G := G) (ai_rs_len hrs) (hrun nn H locs ls cells slots (n1 - n) (sl1 - sl) n1 M1 r hnn.symm g1 g2 g4 hP hS hg hn hl hfit hM) hS (fun H1 locs1 hP1 hg1 hn1 hS1 => ?_)
      have h4 := h1 H1 locs1 ls (cells + (n1 - n)) (slots + (sl1 - sl)) (by simp only; omega) (by simp only; omega) hP1 hS1 hg1 hn1 hl
      simp only [List.map_append] at h4
      exact h4
    · cases h
  · cases h
end SL19
section SL20
variable {p : Program} {l : Launch} {e : Env} {R : Room} {s : State} {m : MethodId} {args : Array Value} {below : List Frame} {meth : Method} {c : Code} {Q : State → Prop}
variable {T : ai_T} {G : ai_G} {cl : List vw_C} {cc : Nat → ByteArray} {yn : Nat → MethodName} {on : Nat → String} {tb : List Cond} {D : va_G} {tys : List (ClassId × FieldType)} {ad : Nat → Nat} {aC : Nat → ClassId} {Ex : State → Prop} {base mi n0 c0 l0 s0 : Nat}
variable {pc n sl d : Nat} {L : ai_L} {st : List Value} {M : ai_M} {cfg : ai_C} {k : Nat → ai_L → List Value → Nat → Nat → ai_M → Option ai_C} {cr : Nat → List Value → Nat → Nat → ai_M → Option ai_C}
/-- what the library's own do at a call -/
def ai_okH2 (T : ai_T) (cl : List vw_C) (cc : Nat → ByteArray) (on : Nat → String) (tb : List Cond) (D : va_G) (tys : List (ClassId × FieldType)) (ad : Nat → Nat) (Ex : State → Prop) (base : Nat) : Prop :=
  ∀ (p : Program) (l : Launch) (e : Env) (R : Room) (s : State) (m : MethodId) (args : Array Value) (below : List Frame) (meth : Method) (c : Code) (Q : State → Prop) (H : Heap) (locs : List Loc) (cells slots pc mi j id a b : Nat) (ls : Array Slot) (st st' : List Value), ai_Cx T cl cc on tb D tys Ex base mi p s m args meth c → ai_pool T (ai_own T mi) j = some (6, id, a, b) → (decode (cc mi) pc = .ok (.invokevirtual j, 3) ∨ decode (cc mi) pc = .ok (.invokestatic j, 3)) → ai_hook T id st = some st' → va_S (fun q => base ≤ q) s.heap H locs → ls.size = c.maxLocals → 9 ≤ R.frames → 160 ≤ R.locals → cells ≤ R.cells → slots ≤ R.slots → W p l e R s m args below meth c H locs cells slots Q (F0 m (pc + 3) ls (st'.map (ai_cv ad))) → W p l e R s m args below meth c H locs cells slots Q (F0 m pc ls (st.map (ai_cv ad)))
set_option maxHeartbeats 8000000 in
theorem ai_c_sim2 (hok : ai_okM T G cl on tb tys ad aC Ex base) (hokS : ai_okS T cl cc yn on tb Ex base) (hH : ai_okH2 T cl cc on tb D tys ad Ex base) (hC : ai_Cx T cl cc on tb D tys Ex base mi p s m args meth c) {i : Instr} (hdg : decode (cc mi) pc = .ok (i, ai_len i))
    (hfr : d + 1 + 8 ≤ R.frames) (hlo : 60 * (d + 1) + 100 ≤ R.locals) (hroom : c0 + cfg.2.2.2.1 ≤ R.cells + n0 ∧ s0 + cfg.2.2.2.2.1 ≤ R.slots + l0)
    (hcr : ai_Cr2 l T G cl cc on tb D tys ad aC Ex base d cr)
    (hk : ∀ (pc' : Nat) (L' : ai_L) (st' : List Value) (n' sl' : Nat) (M' : ai_M), k pc' L' st' n' sl' M' = some cfg → ai_Go p l e R s m args below meth c Q D cl ad aC base (ai_mx T mi) n0 c0 l0 s0 G.1 (pc', L', st', n', sl', M') ∧ n' ≤ cfg.2.2.2.1 ∧ sl' ≤ cfg.2.2.2.2.1)
    (hgo : ai_Go p l e R s m args below meth c Q D cl ad aC base (ai_mx T mi) n0 c0 l0 s0 G.1 cfg)
    (h : ai_c none (some (pc, L, st, n, sl, M)) T G (ai_own T mi) i pc L st n sl M (fun mj na kd => ai_go T mj na kd pc L st n sl M cr k) k = some cfg) : ai_Go p l e R s m args below meth c Q D cl ad aC base (ai_mx T mi) n0 c0 l0 s0 G.1 (pc, L, st, n, sl, M) ∧ n ≤ cfg.2.2.2.1 ∧ sl ≤ cfg.2.2.2.2.1 := by
  obtain ⟨okF, okN, ok7, ok8, ok3, okk, ⟨ty0, ty1, ty2, ty3⟩, ⟨ar0, ar1, ar2, ar3⟩, okX, had⟩ := hok
  obtain ⟨hdec, okC, ok4, ok5, htb, hExW, hExC⟩ := hokS
  obtain ⟨hx, hb, hml, hown, hini, hts, hK, hEx, hbase⟩ := id hC
  have hbl : ∀ (n : Nat) (M : ai_M) (vs : List Value), FrameBlind (ai_Pc G cl D tys ad aC Ex base n M vs) := by
    intro n M vs a U g mk q
    obtain ⟨q0, q1, q2, q3, q4⟩ := q
    exact ⟨q0, va_K.moved (u := U) (U := U.calling g mk a) (Vm.Alike.refl U.vm) q1, hExC U _ rfl rfl q2, q3, q4⟩
  have hpre : ∀ (n : Nat) (M : ai_M) (vs : List Value) (H : Heap) (locs : List Loc), va_P D cl (ai_w ad aC n M) H → va_S (fun q => base ≤ q) s.heap H locs → (G.1 = true → H.size = base + n) → n ≤ 900000 → ∀ U : State, U.heap = H → s.WarmedH U.vm → ai_Pc G cl D tys ad aC Ex base n M vs (vs.map (ai_cv ad)).toArray U := by
    intro n M vs H locs hP hS hg hn U hU hW
    refine ⟨rfl, va_K.moved hW.alike hK, hExW s U hW (fun q hq => ?_) hEx, ?_, ?_, ?_, hn⟩
    · rw [hU]
      exact hS.2.1 q (Nat.lt_of_lt_of_le hq hbase) (Nat.not_le.mpr hq)
    · rw [hU]; exact Nat.le_trans hbase hS.1
    · rw [hU]; exact hP
    · rw [hU]; exact hg
  have hcb : ∀ (c j mj na kd mc ms : Nat), ai_okC T cl cc yn on tb Ex c j mj na kd → ai_mx T mj ≤ 41 → (ai_rm2 d mc ms).cells = mc ∧ (ai_rm2 d mc ms).slots = ms ∧ (ai_rm2 d mc ms).frames + 1 ≤ R.frames ∧ 8 + (ai_mx T mj + 11) + (ai_rm2 d mc ms).locals ≤ R.locals ∧ (∀ w ∈ (Cond.code (yn mj) (cc mj) (ai_mx T mj) (ai_rt T mj) :: tb), ∀ (a' : Array Value) (U : State), s.WarmedH U.vm → w.before a' U = true) ∧ Cond.code (yn mj) (cc mj) (ai_mx T mj) (ai_rt T mj) ∈ (Cond.code (yn mj) (cc mj) (ai_mx T mj) (ai_rt T mj) :: tb) ∧ (Cond.code (yn mj) (cc mj) (ai_mx T mj) (ai_rt T mj)).before args s = true ∧ (Cond.initialized (yn mj).cls).before args s = true ∧ ((yn mj).cls ≠ "java/lang/invoke/MethodHandle" ∧ (yn mj).cls ≠ "java/lang/invoke/VarHandle") ∧ (∀ sig, parseMethodDescriptor (yn mj).desc = some sig → na = sig.parameters.length) := by
    intro c j mj na kd mc ms hoc hmx
    obtain ⟨⟨y1, y2, y3, y4, y5, y6, y7⟩, -⟩ := hoc
    refine ⟨rfl, rfl, (by show d + 8 + 1 ≤ R.frames; omega), ?_, ?_, List.mem_cons_self, hts _ y5, hts _ y6, y3, fun sig hsig => ?_⟩
    · show 8 + (ai_mx T mj + 11) + (60 * d + 100) ≤ R.locals
      omega
    · refine pay_in hts (fun w hw => ?_)
      rcases List.mem_cons.mp hw with rfl | hw
      · exact ⟨y5, htb _ y5⟩
      · exact ⟨hw, htb _ hw⟩
    · rw [hsig] at y4
      exact (Option.some.inj y4).symm
  have hmono : ∀ {a b : Nat}, a + n0 = c0 + n → b + l0 = s0 + sl → n ≤ cfg.2.2.2.1 → sl ≤ cfg.2.2.2.2.1 → a ≤ R.cells ∧ b ≤ R.slots := by
    intro a b h1 h2 h3 h4
    omega
  cases i <;> first | (exfalso; simp only [ai_c, reduceCtorEq] at h; done) | skip
  case invokevirtual j =>
    simp only [ai_c] at h
    split at h
    · rename_i mj na kd hp
      obtain ⟨⟨hkd, hth⟩, hh⟩ := ai_if_some h
      clear h
      obtain ⟨o, rest, fs, hst, ho, hM, hdr⟩ := ai_this_of hth
      have hoc := okC _ _ _ _ _ hp
      refine ai_go_sim2 (G := G) (yn := yn) hdec hoc.1.1 hoc.1.2.1 hoc.1.2.2.2.2.2.2 hroom hcr hk ?_ hh
      intro nn H locs ls cells slots mc ms n' M' r hnn hle hsm hmx hP hS hg hn hl hfit hMet
      have hk1 : ¬ kd = 1 := by omega
      rw [if_neg hk1] at hnn
      subst hnn
      have hna : na < st.length := by omega
      have htk : (st.take (na + 1)).reverse = .ref o :: (st.take na).reverse := by
        have : st.take (na + 1) = st.take na ++ [.ref o] := by
          rw [List.take_add_one]
          have : st[na]? = some (.ref o) := by
            have := congrArg (fun z => z[0]?) hdr
            simpa [List.getElem?_drop] using this
          simp [this]
        rw [this]; simp
      have hdp : st.drop (na + 1) = rest := by
        have := congrArg (fun z => z.drop 1) hdr
        simpa [List.drop_drop, Nat.add_comm] using this
      have hstk : (F0 m pc ls (st.map (ai_cv ad))).stack = ((st.take na).reverse.map (ai_cv ad)).reverse ++ .ref (ad o) :: (st.drop (na + 1)).map (ai_cv ad) := by
        show st.map (ai_cv ad) = _
        rw [hdp]
        conv => lhs; rw [hst]
        simp [ai_cv]
      have hlen : ((st.take na).reverse.map (ai_cv ad)).length = na := by simp; omega
      have hsm' : 2 * (F0 m pc ls (st.map (ai_cv ad))).monitorRoom + (((st.drop (na + 1)).map (ai_cv ad)).map fun v => v.category).sum ≤ 8 := lv_room (by rw [ai_sm_map]; exact hsm)
      have hw := ai_w_get (ad := ad) (aC := aC) (M := M) ho
      rw [hM] at hw
      obtain ⟨b1, b2, b3, b4, b5, b6, b7, b8, b9, b10⟩ := hcb _ j mj na kd mc ms hoc hmx
      have hvs : (st.take (na + 1)).reverse.map (ai_cv ad) = .ref (ad o) :: (st.take na).reverse.map (ai_cv ad) := by rw [htk]; rfl
      rw [hvs]
      have hpre' : ∀ U : State, U.heap = H → s.WarmedH U.vm → ai_Pc G cl D tys ad aC Ex base n M (st.take (na + 1)).reverse (Value.ref (ad o) :: (st.take na).reverse.map (ai_cv ad)).toArray U := by
        rw [← hvs]
        exact hpre n M _ H locs hP hS hg hn
      rcases hkd with hkd | hkd
      · obtain ⟨z1, z2, z3, F, N, z4⟩ := hoc.2.1 hkd
        exact va_runV (C := on (ai_own T mj)) (Ts := tb) ⟨hx, hb, hml, hown, hts⟩ hMet ⟨⟨b1, b2, b3, b4, b5, b6, b7, b8, b9, b10, hts _ z1⟩, hts _ z2, hts _ z3⟩ ⟨hbl _ _ _, va_recv hK hP z4 hw, hpre'⟩ rfl hlen hl.2.1 hstk hsm' hdg hfit
      · obtain ⟨⟨host, z1⟩, z2, z3, F, N, z4⟩ := hoc.2.2.2.2.1 hkd
        exact va_runVN (C := on (ai_own T mj)) (Ts := tb) (host := host) ⟨hx, hb, hml, hown, hts⟩ hMet ⟨⟨⟨b1, b2, b3, b4, b5, b6⟩, b7, b8, b9, b10, va_Nw.use rfl (z1 s hEx)⟩, hts _ z2, hts _ z3⟩ ⟨hbl _ _ _, va_recv hK hP z4 hw, hpre'⟩ rfl hlen hl.2.1 hstk hsm' hdg hfit
    · rename_i id a b hp
      split at h
      · rename_i st' hh
        obtain ⟨h1, h2, h3⟩ := hk _ _ _ _ _ _ h
        refine ⟨?_, h2, h3⟩
        intro H locs ls cells slots e1 e2 hP hS hg hn hl
        have hcs := hmono e1 e2 h2 h3
        exact hH p l e R s m args below meth c Q H locs cells slots pc mi j id a b ls st st' hC hp (Or.inl hdg) hh hS (hl.2.1.trans hml.symm) (by omega) (by omega) hcs.1 hcs.2 (h1 H locs ls cells slots e1 e2 hP hS hg hn hl)
      · cases h
    · cases h
  case invokespecial j =>
    simp only [ai_c] at h
    split at h
    · rename_i mj na kd hp
      obtain ⟨⟨hkd, hth⟩, hh⟩ := ai_if_some h
      clear h
      obtain ⟨o, rest, fs, hst, ho, hM, hdr⟩ := ai_this_of hth
      have hoc := okC _ _ _ _ _ hp
      refine ai_go_sim2 (G := G) (yn := yn) hdec hoc.1.1 hoc.1.2.1 hoc.1.2.2.2.2.2.2 hroom hcr hk ?_ hh
      intro nn H locs ls cells slots mc ms n' M' r hnn hle hsm hmx hP hS hg hn hl hfit hMet
      have hk1 : ¬ kd = 1 := by omega
      rw [if_neg hk1] at hnn
      subst hnn
      have hna : na < st.length := by omega
      have htk : (st.take (na + 1)).reverse = .ref o :: (st.take na).reverse := by
        have : st.take (na + 1) = st.take na ++ [.ref o] := by
          rw [List.take_add_one]
          have : st[na]? = some (.ref o) := by
            have := congrArg (fun z => z[0]?) hdr
            simpa [List.getElem?_drop] using this
          simp [this]
        rw [this]; simp
      have hdp : st.drop (na + 1) = rest := by
        have := congrArg (fun z => z.drop 1) hdr
        simpa [List.drop_drop, Nat.add_comm] using this
      have hstk : (F0 m pc ls (st.map (ai_cv ad))).stack = ((st.take na).reverse.map (ai_cv ad)).reverse ++ .ref (ad o) :: (st.drop (na + 1)).map (ai_cv ad) := by
        show st.map (ai_cv ad) = _
        rw [hdp]
        conv => lhs; rw [hst]
        simp [ai_cv]
      have hlen : ((st.take na).reverse.map (ai_cv ad)).length = na := by simp; omega
      have hsm' : 2 * (F0 m pc ls (st.map (ai_cv ad))).monitorRoom + (((st.drop (na + 1)).map (ai_cv ad)).map fun v => v.category).sum ≤ 8 := lv_room (by rw [ai_sm_map]; exact hsm)
      obtain ⟨b1, b2, b3, b4, b5, b6, b7, b8, b9, b10⟩ := hcb _ j mj na kd mc ms hoc hmx
      have hvs : (st.take (na + 1)).reverse.map (ai_cv ad) = .ref (ad o) :: (st.take na).reverse.map (ai_cv ad) := by rw [htk]; rfl
      rw [hvs]
      have hpre' : ∀ U : State, U.heap = H → s.WarmedH U.vm → ai_Pc G cl D tys ad aC Ex base n M (st.take (na + 1)).reverse (Value.ref (ad o) :: (st.take na).reverse.map (ai_cv ad)).toArray U := by
        rw [← hvs]
        exact hpre n M _ H locs hP hS hg hn
      rcases hkd with hkd | hkd
      · obtain ⟨z1, z2, z3, z4⟩ := hoc.2.2.2.1 hkd
        rw [z4] at hMet b5 b6 b7
        exact va_runI (Ts := tb) ⟨hx, hb, hml, hown, hts⟩ hMet ⟨⟨b1, b2, b3, b4, b5, b6, b7, b8, b9, b10, hts _ z1⟩, z2, hts _ z3⟩ ⟨hbl _ _ _, hpre'⟩ rfl hlen hl.2.1 hstk hsm' hdg hfit
      · obtain ⟨⟨host, z1⟩, z2, z3, z4⟩ := hoc.2.2.2.2.2 hkd
        rw [z4] at hMet b5 b6 b7
        exact va_runIN (Ts := tb) (host := host) ⟨hx, hb, hml, hown, hts⟩ hMet ⟨⟨⟨b1, b2, b3, b4, b5, b6⟩, b7, b8, b9, b10, va_Nw.use rfl (z1 s hEx)⟩, z2, hts _ z3⟩ ⟨hbl _ _ _, hpre'⟩ rfl hlen hl.2.1 hstk hsm' hdg hfit
    · rename_i x y z hp
      split at h
      · rename_i o st
        obtain ⟨hsm, hh⟩ := ai_if_some h
        clear h
        obtain ⟨h1, h2, h3⟩ := hk _ _ _ _ _ _ hh
        refine ⟨?_, h2, h3⟩
        intro H locs ls cells slots e1 e2 hP hS hg hn hl
        obtain ⟨z1, z2, z3⟩ := ok4 _ _ _ _ _ hp
        have hr8 : 2 * (F0 m pc ls (.ref (ad o) :: st.map (ai_cv ad))).monitorRoom + ((st.map (ai_cv ad)).map fun v => v.category).sum ≤ 8 := lv_room (by rw [ai_sm_map]; exact hsm)
        refine W.objInit hx hb hown (hts _ z1) (hts _ z2) (hts _ z3) rfl (by rw [hml]; exact hl.2.1) (a := ad o) (rest := st.map (ai_cv ad)) rfl hdg (by omega) ?_ (h1 H locs ls cells slots e1 e2 hP hS hg hn hl)
        have : 2 * (F0 m pc ls (.ref (ad o) :: st.map (ai_cv ad))).monitorRoom + ((st.map (ai_cv ad)).map fun v => v.category).sum + 12 ≤ R.locals := by omega
        exact this
      · cases h
    · cases h
  case invokestatic j =>
    simp only [ai_c] at h
    split at h
    · rename_i mj na kd hp
      obtain ⟨hkd, hh⟩ := ai_if_some h
      clear h
      have hoc := okC _ _ _ _ _ hp
      refine ai_go_sim2 (G := G) (yn := yn) hdec hoc.1.1 hoc.1.2.1 hoc.1.2.2.2.2.2.2 hroom hcr hk ?_ hh
      intro nn H locs ls cells slots mc ms n' M' r hnn hle hsm hmx hP hS hg hn hl hfit hMet
      rw [if_pos hkd] at hnn
      subst hnn
      have hstk : (F0 m pc ls (st.map (ai_cv ad))).stack = ((st.take nn).reverse.map (ai_cv ad)).reverse ++ (st.drop nn).map (ai_cv ad) := by
        show st.map (ai_cv ad) = _
        rw [← List.map_reverse, List.reverse_reverse, ← List.map_append, List.take_append_drop]
      have hlen : ((st.take nn).reverse.map (ai_cv ad)).length = nn := by simp; omega
      have hsm' : 2 * (F0 m pc ls (st.map (ai_cv ad))).monitorRoom + (((st.drop nn).map (ai_cv ad)).map fun v => v.category).sum ≤ 8 := lv_room (by rw [ai_sm_map]; exact hsm)
      obtain ⟨b1, b2, b3, b4, b5, b6, b7, b8, b9, b10⟩ := hcb _ j mj nn kd mc ms hoc hmx
      obtain ⟨z1, z2⟩ := hoc.2.2.1 hkd
      exact va_runS (Ts := tb) ⟨hx, hb, hml, hown, hts⟩ hMet ⟨⟨b1, b2, b3, b4, b5, b6, b7, b8, b9, b10, hts _ z1⟩, hts _ z2⟩ ⟨hbl _ _ _, hpre n M _ H locs hP hS hg hn⟩ rfl hlen hl.2.1 hstk hsm' hdg hfit
    · rename_i hp
      cases h
      exact ⟨hgo, Nat.le_refl _, Nat.le_refl _⟩
    · rename_i x y z hp
      obtain ⟨z1, z2, z3, z4⟩ := ok5 _ _ _ _ _ hp
      unfold ai_cp at h
      split at h
      · rename_i len dp o1 sp o0 st
        obtain ⟨⟨hG, ho0, ho1, hsp, hdp, hln, hsm⟩, h⟩ := ai_if_some h
        have hnw : nativeFrameWords "java/lang/System" "arraycopy" 5 ≤ 41 := by decide
        split at h
        · rename_i k0 n0' f k1 n1' g hM0 hM1
          obtain ⟨⟨hk0, hk1, hl0, hl1⟩, hh⟩ := ai_if_some h
          clear h
          subst hk0; subst hk1
          obtain ⟨h1, h2, h3⟩ := hk _ _ _ _ _ _ hh
          refine ⟨?_, h2, h3⟩
          intro H locs ls cells slots e1 e2 hP hS hg hn hl
          have hw0 := ai_w_get (ad := ad) (aC := aC) (M := M) ho0
          rw [hM0] at hw0
          have hw1 := ai_w_get (ad := ad) (aC := aC) (M := M) ho1
          rw [hM1] at hw1
          exact va_copyi hx hb (hml.trans hl.2.1.symm) hown (hts _ z1) (hts _ z2) (hts _ z3) (hts _ z4) hK hP (ai_w_D hn had) hS o0 o1 0 0 hw0 hw1 ty0 ty0 rfl hsp hdp hln hl0 hl1 (fun _ _ => rfl) (by omega) (by rw [ai_sm_map]; omega) hdg (fun H1 locs1 hP1 _ hS1 => h1 H1 locs1 ls cells slots e1 e2 (ai_P_eq (ai_w_set (ad := ad) (aC := aC) (n := n) (M := M) (k := o1) (.inl (0, n1', .inl (va_cpy f g sp.toNatClampNeg dp.toNatClampNeg len.toNatClampNeg)))) hP1) hS1 (fun q => by rw [hG] at q; cases q) hn hl)
        · rename_i k0 n0' f k1 n1' g hM0 hM1
          obtain ⟨⟨hk0, hk1, hl0, hl1⟩, hh⟩ := ai_if_some h
          clear h
          subst hk0; subst hk1
          obtain ⟨h1, h2, h3⟩ := hk _ _ _ _ _ _ hh
          refine ⟨?_, h2, h3⟩
          intro H locs ls cells slots e1 e2 hP hS hg hn hl
          have hw0 := ai_w_get (ad := ad) (aC := aC) (M := M) ho0
          rw [hM0] at hw0
          have hw1 := ai_w_get (ad := ad) (aC := aC) (M := M) ho1
          rw [hM1] at hw1
          exact va_copyl hx hb (hml.trans hl.2.1.symm) hown (hts _ z1) (hts _ z2) (hts _ z3) (hts _ z4) hK hP (ai_w_D hn had) hS o0 o1 3 3 hw0 hw1 ty3 ty3 rfl hsp hdp hln hl0 hl1 (fun _ _ => rfl) (by omega) (by rw [ai_sm_map]; omega) hdg (fun H1 locs1 hP1 _ hS1 => h1 H1 locs1 ls cells slots e1 e2 (ai_P_eq (ai_w_set (ad := ad) (aC := aC) (n := n) (M := M) (k := o1) (.inl (3, n1', .inr (.inl (va_cpy f g sp.toNatClampNeg dp.toNatClampNeg len.toNatClampNeg))))) hP1) hS1 (fun q => by rw [hG] at q; cases q) hn hl)
        · cases h
      · cases h
    · rename_i id a b hp
      split at h
      · rename_i st' hh
        obtain ⟨h1, h2, h3⟩ := hk _ _ _ _ _ _ h
        refine ⟨?_, h2, h3⟩
        intro H locs ls cells slots e1 e2 hP hS hg hn hl
        have hcs := hmono e1 e2 h2 h3
        exact hH p l e R s m args below meth c Q H locs cells slots pc mi j id a b ls st st' hC hp (Or.inr hdg) hh hS (hl.2.1.trans hml.symm) (by omega) (by omega) hcs.1 hcs.2 (h1 H locs ls cells slots e1 e2 hP hS hg hn hl)
      · cases h
    · cases h
/-- all that the tables must be -/
def ai_OK2 (l : Launch) (T : ai_T) (G : ai_G) (cl : List vw_C) (cc : Nat → ByteArray) (yn : Nat → MethodName) (on : Nat → String) (tb : List Cond) (D : va_G) (tys : List (ClassId × FieldType)) (ad : Nat → Nat) (aC : Nat → ClassId) (Ex : State → Prop) (base : Nat) : Prop :=
  ai_okM T G cl on tb tys ad aC Ex base ∧ ai_okL T cl cc on tb D tys ad Ex base ∧ ai_okS T cl cc yn on tb Ex base ∧ ai_okH2 T cl cc on tb D tys ad Ex base
set_option maxHeartbeats 4000000 in
/-- WHAT THE INTERPRETER DOES, THE MACHINE DOES -/
theorem ai_sim2 (hOK : ai_OK2 l T G cl cc yn on tb D tys ad aC Ex base) : ∀ (f d mi pc : Nat) (L : ai_L) (st : List Value) (n sl : Nat) (M : ai_M) (z : ai_C), ai_run T G f d mi pc L st n sl M = some z → n ≤ z.2.2.2.1 ∧ sl ≤ z.2.2.2.2.1 ∧ ∀ (p : Program) (e : Env) (R : Room) (s : State) (m : MethodId) (args : Array Value) (below : List Frame) (meth : Method) (c : Code) (Q : State → Prop) (n0 c0 l0 s0 : Nat), ai_Cx T cl cc on tb D tys Ex base mi p s m args meth c → d + 8 ≤ R.frames → 60 * d + 100 ≤ R.locals → c0 + z.2.2.2.1 ≤ R.cells + n0 ∧ s0 + z.2.2.2.2.1 ≤ R.slots + l0 → ai_Go p l e R s m args below meth c Q D cl ad aC base (ai_mx T mi) n0 c0 l0 s0 G.1 z → ai_Go p l e R s m args below meth c Q D cl ad aC base (ai_mx T mi) n0 c0 l0 s0 G.1 (pc, L, st, n, sl, M) := by
  obtain ⟨okM, okL, okS, okH⟩ := hOK
  have hdec := okS.1
  intro f
  induction f with
  | zero =>
    intro d mi pc L st n sl M z h
    cases h
  | succ f ih =>
    intro d mi pc L st n sl M z h
    unfold ai_run at h
    split at h
    · cases h
    · rename_i i len hd
      have hdg := hdec _ _ _ _ hd
      split at h
      · refine ⟨ai_sw_mono (fun _ _ _ q => (ih _ _ _ _ _ _ _ _ _ q).1) h, ai_sw_mono (fun _ _ _ q => (ih _ _ _ _ _ _ _ _ _ q).2.1) h, ?_⟩
        intro p e R s m args below meth c Q n0 c0 l0 s0 hC hfr hlo hroom hgo
        intro H locs ls cells slots e1 e2 hP hS hg hn hl
        exact ai_sw_sim hC.1 hC.2.1 hdg hl (fun pc' L' st' q ls' hl' => (ih _ _ _ _ _ _ _ _ _ q).2.2 p e R s m args below meth c Q n0 c0 l0 s0 hC hfr hlo hroom hgo H locs ls' cells slots e1 e2 hP hS hg hn hl') h
      · cases h
        exact ⟨Nat.le_refl _, Nat.le_refl _, fun p e R s m args below meth c Q n0 c0 l0 s0 hC hfr hlo hroom hgo => hgo⟩
      · obtain ⟨hlen, hh⟩ := ai_if_some h
        clear h
        subst hlen
        refine ⟨ai_m_mono (fun _ _ _ _ _ _ q1 q2 q => Nat.le_trans q1 (ih _ _ _ _ _ _ _ _ _ q).1) (fun q => by rw [← q]; exact Nat.le_refl _) hh, ai_m_mono (fun _ _ _ _ _ _ q1 q2 q => Nat.le_trans q2 (ih _ _ _ _ _ _ _ _ _ q).2.1) (fun q => by rw [← q]; exact Nat.le_refl _) hh, ?_⟩
        intro p e R s m args below meth c Q n0 c0 l0 s0 hC hfr hlo hroom hgo
        exact (ai_m_sim okM okL hC hdg hroom (fun pc' L' st' n' sl' M' q => ⟨(ih _ _ _ _ _ _ _ _ _ q).2.2 p e R s m args below meth c Q n0 c0 l0 s0 hC hfr hlo hroom hgo, (ih _ _ _ _ _ _ _ _ _ q).1, (ih _ _ _ _ _ _ _ _ _ q).2.1⟩) hgo hh).1
      · obtain ⟨hlen, hh⟩ := ai_if_some h
        clear h
        subst hlen
        split at hh
        · cases hh
        · rename_i d'
          have hcr : ∀ (mj : Nat) (vs : List Value) (n sl : Nat) (M : ai_M) (z : ai_C), ai_run T G f d' mj 0 (ai_en vs (ai_mx T mj)) [] n sl M = some z → n ≤ z.2.2.2.1 ∧ sl ≤ z.2.2.2.2.1 := fun mj vs n sl M z q => ⟨(ih _ _ _ _ _ _ _ _ _ q).1, (ih _ _ _ _ _ _ _ _ _ q).2.1⟩
          refine ⟨ai_c_mono hcr (fun _ _ _ _ _ _ q1 q2 q => Nat.le_trans q1 (ih _ _ _ _ _ _ _ _ _ q).1) (fun q => by rw [← q]; exact Nat.le_refl _) hh, ai_c_mono hcr (fun _ _ _ _ _ _ q1 q2 q => Nat.le_trans q2 (ih _ _ _ _ _ _ _ _ _ q).2.1) (fun q => by rw [← q]; exact Nat.le_refl _) hh, ?_⟩
          intro p e R s m args below meth c Q n0 c0 l0 s0 hC hfr hlo hroom hgo
          exact (ai_c_sim2 okM okS okH hC hdg hfr hlo hroom (fun mj vs n sl M z q => ih _ _ _ _ _ _ _ _ _ q) (fun pc' L' st' n' sl' M' q => ⟨(ih _ _ _ _ _ _ _ _ _ q).2.2 p e R s m args below meth c Q n0 c0 l0 s0 hC hfr hlo hroom hgo, (ih _ _ _ _ _ _ _ _ _ q).1, (ih _ _ _ _ _ _ _ _ _ q).2.1⟩) hgo hh).1
      · obtain ⟨hlen, hh⟩ := ai_if_some h
        clear h
        rename_i h
        have h := hh
        subst hlen
        refine ⟨ai_p_mono (fun _ _ _ q => (ih _ _ _ _ _ _ _ _ _ q).1) h, ai_p_mono (fun _ _ _ q => (ih _ _ _ _ _ _ _ _ _ q).2.1) h, ?_⟩
        intro p e R s m args below meth c Q n0 c0 l0 s0 hC hfr hlo hroom hgo
        intro H locs ls cells slots e1 e2 hP hS hg hn hl
        exact ai_p_sim hC.1 hC.2.1 hdg hl (fun pc' L' st' q ls' hl' => (ih _ _ _ _ _ _ _ _ _ q).2.2 p e R s m args below meth c Q n0 c0 l0 s0 hC hfr hlo hroom hgo H locs ls' cells slots e1 e2 hP hS hg hn hl') h
end SL20
section SL25
variable {T : ai_T} {G : ai_G}
variable {l : Launch} {cl : List vw_C} {cc : Nat → ByteArray} {yn : Nat → MethodName} {on : Nat → String} {tb : List Cond} {D : va_G} {tys : List (ClassId × FieldType)} {ad : Nat → Nat} {aC : Nat → ClassId} {Ex : State → Prop} {base : Nat}
set_option maxHeartbeats 4000000 in
theorem ai_one_sim2 (hOK : ai_OK2 l T G cl cc yn on tb D tys ad aC Ex base) {f d mi : Nat} {z z' : ai_C} (h : ai_one T G f d mi z = some z') : z.2.2.2.1 ≤ z'.2.2.2.1 ∧ z.2.2.2.2.1 ≤ z'.2.2.2.2.1 ∧ ∀ (p : Program) (e : Env) (R : Room) (s : State) (m : MethodId) (args : Array Value) (below : List Frame) (meth : Method) (c : Code) (Q : State → Prop) (n0 c0 l0 s0 : Nat), ai_Cx T cl cc on tb D tys Ex base mi p s m args meth c → d + 8 ≤ R.frames → 60 * d + 100 ≤ R.locals → c0 + z'.2.2.2.1 ≤ R.cells + n0 ∧ s0 + z'.2.2.2.2.1 ≤ R.slots + l0 → ai_Go p l e R s m args below meth c Q D cl ad aC base (ai_mx T mi) n0 c0 l0 s0 G.1 z' → ai_Go p l e R s m args below meth c Q D cl ad aC base (ai_mx T mi) n0 c0 l0 s0 G.1 z := by
  have hsim := ai_sim2 hOK
  obtain ⟨okM, okL, okS, okH⟩ := hOK
  have hdec := okS.1
  obtain ⟨pc, L, st, n, sl, M⟩ := z
  unfold ai_one at h
  dsimp only at h
  split at h
  · cases h
  · rename_i i len hd
    have hdg := hdec _ _ _ _ hd
    split at h
    · refine ⟨ai_sw_mono (fun _ _ _ q => by cases q; exact Nat.le_refl _) h, ai_sw_mono (fun _ _ _ q => by cases q; exact Nat.le_refl _) h, ?_⟩
      intro p e R s m args below meth c Q n0 c0 l0 s0 hC hfr hlo hroom hgo
      intro H locs ls cells slots e1 e2 hP hS hg hn hl
      exact ai_sw_sim hC.1 hC.2.1 hdg hl (fun pc' L' st' q ls' hl' => by cases q; exact hgo H locs ls' cells slots e1 e2 hP hS hg hn hl') h
    · cases h
    · obtain ⟨hlen, hh⟩ := ai_if_some h
      clear h
      subst hlen
      have h2 : ai_m none (some (pc, L, st, n, sl, M)) T G (ai_own T mi) (ai_ini T mi) i pc L st n sl M (fun pc L st n sl M => some (pc, L, st, n, sl, M)) = some z' := ai_m_rel (fun (a b : Option ai_C) => a = some z' → b = some z') (fun q => q) (fun q => by cases q) (fun _ _ _ _ _ _ q => q) _ _ i pc L st n sl M hh
      refine ⟨ai_m_mono (fun _ _ _ _ _ _ q1 q2 q => by cases q; exact q1) (fun q => by rw [← q]; exact Nat.le_refl _) h2, ai_m_mono (fun _ _ _ _ _ _ q1 q2 q => by cases q; exact q2) (fun q => by rw [← q]; exact Nat.le_refl _) h2, ?_⟩
      intro p e R s m args below meth c Q n0 c0 l0 s0 hC hfr hlo hroom hgo
      exact (ai_m_sim okM okL hC hdg hroom (fun pc' L' st' n' sl' M' q => by cases q; exact ⟨hgo, Nat.le_refl _, Nat.le_refl _⟩) hgo h2).1
    · obtain ⟨hlen, hh⟩ := ai_if_some h
      clear h
      subst hlen
      split at hh
      · cases hh
      · rename_i d'
        have h2 : ai_c none (some (pc, L, st, n, sl, M)) T G (ai_own T mi) i pc L st n sl M (fun mj na kd => ai_go T mj na kd pc L st n sl M (fun mj vs n sl M => ai_run T G f d' mj 0 (ai_en vs (ai_mx T mj)) [] n sl M) (fun pc L st n sl M => some (pc, L, st, n, sl, M))) (fun pc L st n sl M => some (pc, L, st, n, sl, M)) = some z' := ai_c_rel (fun (a b : Option ai_C) => a = some z' → b = some z') (fun q => q) (fun q => by cases q) (fun _ _ _ _ _ _ q => q) (fun _ _ _ q => q) _ i pc L st n sl M hh
        have hcr : ∀ (mj : Nat) (vs : List Value) (n sl : Nat) (M : ai_M) (z : ai_C), ai_run T G f d' mj 0 (ai_en vs (ai_mx T mj)) [] n sl M = some z → n ≤ z.2.2.2.1 ∧ sl ≤ z.2.2.2.2.1 := fun mj vs n sl M z q => ⟨(hsim _ _ _ _ _ _ _ _ _ _ q).1, (hsim _ _ _ _ _ _ _ _ _ _ q).2.1⟩
        refine ⟨ai_c_mono hcr (fun _ _ _ _ _ _ q1 q2 q => by cases q; exact q1) (fun q => by rw [← q]; exact Nat.le_refl _) h2, ai_c_mono hcr (fun _ _ _ _ _ _ q1 q2 q => by cases q; exact q2) (fun q => by rw [← q]; exact Nat.le_refl _) h2, ?_⟩
        intro p e R s m args below meth c Q n0 c0 l0 s0 hC hfr hlo hroom hgo
        exact (ai_c_sim2 okM okS okH hC hdg hfr hlo hroom (fun mj vs n sl M z q => hsim _ _ _ _ _ _ _ _ _ _ q) (fun pc' L' st' n' sl' M' q => by cases q; exact ⟨hgo, Nat.le_refl _, Nat.le_refl _⟩) hgo h2).1
    · obtain ⟨hlen, hh⟩ := ai_if_some h
      clear h
      subst hlen
      refine ⟨ai_p_mono (fun _ _ _ q => by cases q; exact Nat.le_refl _) hh, ai_p_mono (fun _ _ _ q => by cases q; exact Nat.le_refl _) hh, ?_⟩
      intro p e R s m args below meth c Q n0 c0 l0 s0 hC hfr hlo hroom hgo
      intro H locs ls cells slots e1 e2 hP hS hg hn hl
      exact ai_p_sim hC.1 hC.2.1 hdg hl (fun pc' L' st' q ls' hl' => by cases q; exact hgo H locs ls' cells slots e1 e2 hP hS hg hn hl') hh
theorem ai_it_sim2 (hOK : ai_OK2 l T G cl cc yn on tb D tys ad aC Ex base) {f d mi : Nat} : ∀ (k : Nat) (z z' : ai_C), ai_it T G f d mi k z = some z' → z.2.2.2.1 ≤ z'.2.2.2.1 ∧ z.2.2.2.2.1 ≤ z'.2.2.2.2.1 ∧ ∀ (p : Program) (e : Env) (R : Room) (s : State) (m : MethodId) (args : Array Value) (below : List Frame) (meth : Method) (c : Code) (Q : State → Prop) (n0 c0 l0 s0 : Nat), ai_Cx T cl cc on tb D tys Ex base mi p s m args meth c → d + 8 ≤ R.frames → 60 * d + 100 ≤ R.locals → c0 + z'.2.2.2.1 ≤ R.cells + n0 ∧ s0 + z'.2.2.2.2.1 ≤ R.slots + l0 → ai_Go p l e R s m args below meth c Q D cl ad aC base (ai_mx T mi) n0 c0 l0 s0 G.1 z' → ai_Go p l e R s m args below meth c Q D cl ad aC base (ai_mx T mi) n0 c0 l0 s0 G.1 z := by
  intro k
  induction k with
  | zero =>
    intro z z' h
    cases h
    exact ⟨Nat.le_refl _, Nat.le_refl _, fun p e R s m args below meth c Q n0 c0 l0 s0 hC hfr hlo hroom hgo => hgo⟩
  | succ k ih =>
    intro z z' h
    unfold ai_it at h
    split at h
    · cases h
    · rename_i z1 h1
      obtain ⟨a1, a2, a3⟩ := ai_one_sim2 hOK h1
      obtain ⟨b1, b2, b3⟩ := ih z1 z' h
      refine ⟨Nat.le_trans a1 b1, Nat.le_trans a2 b2, ?_⟩
      intro p e R s m args below meth c Q n0 c0 l0 s0 hC hfr hlo hroom hgo
      exact a3 p e R s m args below meth c Q n0 c0 l0 s0 hC hfr hlo ⟨by omega, by omega⟩ (b3 p e R s m args below meth c Q n0 c0 l0 s0 hC hfr hlo hroom hgo)
end SL25
