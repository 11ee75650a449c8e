/-! THE MACHINE DOES WHAT THE INTERPRETER DOES, V: a method as a contract -/
section AIC
/-- a method of the program can be called so -/
def ai_okC (T : ai_T) (cl : List vw_C) (cc : Nat → ByteArray) (yn : Nat → MethodName) (on : Nat → String) (tb : List Cond) (Ex : State → Prop) (c j mj na kd : Nat) : Prop :=
  ((yn mj).cls = on (ai_own T mj) ∧ plainName (yn mj).cls = true ∧ ((yn mj).cls ≠ "java/lang/invoke/MethodHandle" ∧ (yn mj).cls ≠ "java/lang/invoke/VarHandle") ∧ (parseMethodDescriptor (yn mj).desc).map (fun d => d.parameters.length) = some na ∧ Cond.code (yn mj) (cc mj) (ai_mx T mj) (ai_rt T mj) ∈ tb ∧ Cond.initialized (yn mj).cls ∈ tb ∧ (ai_ini T mj = true → (yn mj).name = "<init>")) ∧
  (kd = 0 → Cond.methodLink (on c) j (yn mj) ∈ tb ∧ Cond.instanceMethod (yn mj) ∈ tb ∧ Cond.selects (on (ai_own T mj)) (yn mj) (yn mj) ∈ tb ∧ ∃ (F : u_T) (N : Nat), cl[ai_own T mj]? = some (on (ai_own T mj), F, N)) ∧
  (kd = 1 → Cond.methodLink (on c) j (yn mj) ∈ tb ∧ Cond.static (yn mj) ∈ tb) ∧
  (kd = 2 → Cond.methodLink (on c) j (yn mj) ∈ tb ∧ (yn mj).name = "<init>" ∧ Cond.instanceMethod (yn mj) ∈ tb ∧ ai_rt T mj = none) ∧
  (kd = 3 → (∃ host : String, ∀ U, Ex U → va_Nw (.methodLinkNest (on c) j (yn mj) host) U) ∧ Cond.instanceMethod (yn mj) ∈ tb ∧ Cond.selects (on (ai_own T mj)) (yn mj) (yn mj) ∈ tb ∧ ∃ (F : u_T) (N : Nat), cl[ai_own T mj]? = some (on (ai_own T mj), F, N)) ∧
  (kd = 4 → (∃ host : String, ∀ U, Ex U → va_Nw (.methodLinkNest (on c) j (yn mj) host) U) ∧ (yn mj).name = "<init>" ∧ Cond.instanceMethod (yn mj) ∈ tb ∧ ai_rt T mj = none)
theorem ai_ar_args (ad : Nat → Nat) : ∀ (vs : List Value) (i b : Nat) (v : Value), ai_at (ai_ar vs) i = some v → (b + i, ai_cv ad v) ∈ lv_args b (vs.map (ai_cv ad))
  | [], i, b, v, h => by simp [ai_ar, ai_at] at h
  | w :: vs, i, b, v, h => by
    have two : ∀ w' : Value, (ai_cv ad w').category = 2 → ai_at (some w' :: none :: ai_ar vs) i = some v → (b + i, ai_cv ad v) ∈ lv_args b ((w' :: vs).map (ai_cv ad)) := by
      intro w' hc h
      match i, h with
      | 0, h => simp only [ai_at] at h; cases h; exact List.mem_cons_self
      | 1, h => simp [ai_at] at h
      | i + 2, h =>
        have := ai_ar_args ad vs i (b + 2) v (by simpa [ai_at] using h)
        simp only [List.map_cons, lv_args, hc, if_true]
        refine List.mem_cons_of_mem _ ?_
        rw [show b + (i + 2) = b + 2 + i by omega]
        exact this
    have one : ∀ w' : Value, (ai_cv ad w').category = 1 → ai_at (some w' :: ai_ar vs) i = some v → (b + i, ai_cv ad v) ∈ lv_args b ((w' :: vs).map (ai_cv ad)) := by
      intro w' hc h
      match i, h with
      | 0, h => simp only [ai_at] at h; cases h; exact List.mem_cons_self
      | i + 1, h =>
        have := ai_ar_args ad vs i (b + 1) v (by simpa [ai_at] using h)
        simp only [List.map_cons, lv_args, hc]
        refine List.mem_cons_of_mem _ ?_
        rw [show b + (i + 1) = b + 1 + i by omega]
        exact this
    cases w with
    | long x => exact two (.long x) rfl h
    | double x => exact two (.double x) rfl h
    | int x => exact one (.int x) rfl h
    | float x => exact one (.float x) rfl h
    | null => exact one .null rfl h
    | ref x => exact one (.ref x) rfl h
    | retAddr x => exact one (.retAddr x) rfl h
theorem ai_at_app : ∀ (A B : ai_L) (i : Nat) (v : Value), ai_at (A ++ B) i = some v → ai_at A i = some v ∨ (A.length ≤ i ∧ ai_at B (i - A.length) = some v)
  | [], B, i, v, h => Or.inr ⟨by simp, by simpa using h⟩
  | a :: A, B, 0, v, h => Or.inl (by simpa [ai_at] using h)
  | a :: A, B, i + 1, v, h => by
    rcases ai_at_app A B i v (by simpa [ai_at] using h) with h1 | ⟨h1, h2⟩
    · exact Or.inl (by simpa [ai_at] using h1)
    · refine Or.inr ⟨by simp; omega, ?_⟩
      rw [show i + 1 - (a :: A).length = i - A.length by simp]
      exact h2
theorem ai_at_rep : ∀ (k i : Nat), ai_at (List.replicate k none) i = none
  | 0, _ => rfl
  | k + 1, 0 => rfl
  | k + 1, i + 1 => by simpa [List.replicate, ai_at] using ai_at_rep k i
theorem ai_ar_len (ad : Nat → Nat) : ∀ vs : List Value, (lg_sl (vs.map (ai_cv ad))).length = (ai_ar vs).length
  | [] => rfl
  | w :: vs => by
    have := ai_ar_len ad vs
    have e : lg_sl ((w :: vs).map (ai_cv ad)) = (if (ai_cv ad w).category = 2 then [.val (ai_cv ad w), .second] else [.val (ai_cv ad w)]) ++ lg_sl (vs.map (ai_cv ad)) := rfl
    rw [e, List.length_append, this]
    cases w <;> simp [ai_ar, ai_cv, Value.category] <;> omega
/-- the locals with which a method begins -/
theorem ai_H_entry {ad : Nat → Nat} {vs : List Value} {n : Nat} (h : (ai_ar vs).length ≤ n) : ai_H ad ((lg_sl (vs.map (ai_cv ad)) ++ List.replicate (n - (lg_sl (vs.map (ai_cv ad))).length) Slot.unset).toArray) n (ai_en vs n) := by
  have h1 := lv_entry (vs.map (ai_cv ad)) (n := n) (by rw [ai_ar_len]; exact h)
  refine ⟨by simp [ai_en]; omega, h1.1, h1.2.1, fun i v hv => ?_⟩
  rcases ai_at_app _ _ _ _ hv with h2 | ⟨-, h2⟩
  · have := ai_ar_args ad vs i 0 v h2
    rw [Nat.zero_add] at this
    exact h1.2.2 _ this
  · rw [ai_at_rep] at h2
    cases h2
variable {l : Launch} {T : ai_T} {G : ai_G} {cl : List vw_C} {cc : Nat → ByteArray} {yn : Nat → MethodName} {on : Nat → String} {tb : List Cond} {D : va_G} {tys : List (ClassId × FieldType)} {ad : Nat → Nat} {aC : Nat → ClassId} {Ex : State → Prop} {base : Nat}
/-- the world with which a method begins, and with which it ends -/
def ai_B (G : ai_G) (cl : List vw_C) (D : va_G) (ad : Nat → Nat) (aC : Nat → ClassId) (base n : Nat) (M : ai_M) (t : State) : Prop := va_P D cl (ai_w ad aC n M) t.heap ∧ (G.1 = true → t.heap.size = base + n) ∧ n ≤ 900000
def ai_Pc (G : ai_G) (cl : List vw_C) (D : va_G) (tys : List (ClassId × FieldType)) (ad : Nat → Nat) (aC : Nat → ClassId) (Ex : State → Prop) (base n : Nat) (M : ai_M) (vs : List Value) : Array Value → State → Prop := va_Pc (vs.map (ai_cv ad)) (fun U => va_K D cl tys U ∧ Ex U ∧ base ≤ U.heap.size ∧ ai_B G cl D ad aC base n M U)
/-- the end of a method by what it hands to its caller -/
def ai_Qc (G : ai_G) (cl : List vw_C) (D : va_G) (ad : Nat → Nat) (aC : Nat → ClassId) (base n : Nat) (M : ai_M) (r : List Value) : Array Value → State → Outcome → State → Prop := fun _ st oc t => (oc = .returned (r.map (ai_cv ad)).head? ∧ ai_B G cl D ad aC base n M t) ∧ va_F (fun q => base ≤ q) st t
def ai_rm (d mc ms : Nat) : Room := { frames := d, cells := mc, slots := ms, locals := 60 * d }
set_option maxHeartbeats 4000000 in
theorem ai_met (hdec : ∀ mi pc i len, ai_dec T mi pc = some (i, len) → decode (cc mi) pc = .ok (i, len)) {mj d n sl : Nat} {vs : List Value} {M : ai_M} {pc' n' sl' : Nat} {L' : ai_L} {st' r : List Value} {M' : ai_M}
    (hy1 : (yn mj).cls = on (ai_own T mj)) (hy2 : plainName (yn mj).cls = true) (hy3 : ai_ini T mj = true → (yn mj).name = "<init>") (hlen : (ai_ar vs).length ≤ ai_mx T mj) (hn1 : n ≤ n') (hl1 : sl ≤ sl')
    (hr : ai_rs (ai_rt T mj) (ai_dec T mj pc') st' = some r)
    (sim : ∀ (p : Program) (e : Env) (R : Room) (s : State) (m : MethodId) (args : Array Value) (below : List Frame) (meth : Method) (c : Code) (Q : State → Prop) (n0 c0 l0 s0 : Nat), ai_Cx T cl cc on tb D tys Ex base mj p s m args meth c → d ≤ R.frames → 60 * d ≤ R.locals → c0 + n' ≤ R.cells + n0 ∧ s0 + sl' ≤ R.slots + l0 → ai_Go p l e R s m args below meth c Q D cl ad aC base (ai_mx T mj) n0 c0 l0 s0 G.1 (pc', L', st', n', sl', M') → ai_Go p l e R s m args below meth c Q D cl ad aC base (ai_mx T mj) n0 c0 l0 s0 G.1 (0, ai_en vs (ai_mx T mj), [], n, sl, M)) :
    Met l (yn mj) (Cond.code (yn mj) (cc mj) (ai_mx T mj) (ai_rt T mj) :: tb) (ai_rm d (n' - n) (sl' - sl)) (ai_Pc G cl D tys ad aC Ex base n M vs) (ai_Qc G cl D ad aC base n' M' r) (n' - n) (sl' - sl) (fun q => base ≤ q) := by
  refine Met.ofW (cc := cc mj) (maxL := ai_mx T mj) (ret := ai_rt T mj) hy2 rfl ?_
  intro p e s m args below meth c s₁ B hml hv
  obtain ⟨rfl, hK, hEx, hbase, hP, hg, hn9⟩ := hv
  have hts := atoms_spec (ws := Cond.code (yn mj) (cc mj) (ai_mx T mj) (ai_rt T mj) :: tb) B.pre
  have hown : s.vm.findClass (on (ai_own T mj)) = some m.cls := by rw [← hy1]; exact findClass_of_methodNamed B.named
  have hnm : meth.name = (yn mj).name := (name_of_methodNamed B.named B.method).1
  have hlocks := B.notSynchronized
  have hr0 := B.returns
  have hx := B.exec
  have hb := B.bytes
  rw [lg_entry_eq]
  refine sim p e _ s m _ below meth c _ n 0 sl 0 ⟨hx, hb, hml, hown, fun z => hnm.trans (hy3 z), fun w hw => hts w (List.mem_cons_of_mem _ hw), hK, hEx, hbase⟩ (Nat.le_refl d) (Nat.le_refl (60 * d)) ⟨?_, ?_⟩ ?_ s.heap [] _ 0 0 rfl rfl hP va_S.rf hg hn9 (ai_H_entry hlen)
  · show 0 + n' ≤ (n' - n) + n
    omega
  · show 0 + sl' ≤ (sl' - sl) + sl
    omega
  · intro H locs ls cells slots e1 e2 hP' hS' hg' hn' hl'
    have e1' : cells = n' - n := by simp only at e1; omega
    have e2' : slots = sl' - sl := by simp only at e2; omega
    subst e1'; subst e2'
    have hq : ∀ (o : Option Value), o = (r.map (ai_cv ad)).head? → ∀ t : State, t.heap = H → s.WarmedH t.vm → ai_Qc G cl D ad aC base n' M' r (vs.map (ai_cv ad)).toArray s (.returned o) t := by
      intro o ho t ht _
      exact ⟨⟨by rw [ho], by rw [ht]; exact hP', by rw [ht]; exact hg', hn'⟩, hS'.F ht⟩
    unfold ai_rs at hr
    split at hr
    · rename_i h1 h2
      cases hr
      exact W.vret hx hb (by rw [hr0, h1]) (hq _ rfl) hS'.2.2 (hdec _ _ _ _ h2)
    · rename_i h1 h2
      cases hr
      exact W.iret hx hb (by rw [hr0, h1]) (hq _ rfl) hS'.2.2 (hdec _ _ _ _ h2)
    · rename_i h1 h2
      split at hr
      · rename_i hz
        cases hr
        exact W.zret (ty := .boolean) hx hb (by rw [hr0, h1]) (by rcases hz with rfl | rfl <;> decide) (hq _ rfl) hS'.2.2 (hdec _ _ _ _ h2)
      · cases hr
    · rename_i h1 h2
      cases hr
      exact W.lret hx hb (by rw [hr0, h1]) (hq _ rfl) hS'.2.2 (hdec _ _ _ _ h2)
    · cases hr
end AIC
