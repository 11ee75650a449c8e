/-! THE MACHINE DOES WHAT THE INTERPRETER DOES, VI: calls, and the run -/
section AIZ
variable {p : Program} {l : Launch} {e : Env} {R : Room} {s : State} {m : MethodId} {args : Array Value} {below : List Frame} {meth : Method} {c : Code} {Q : State → Prop}
variable {T : ai_T} {G : ai_G} {cl : List vw_C} {cc : Nat → ByteArray} {yn : Nat → MethodName} {on : Nat → String} {tb : List Cond} {D : va_G} {tys : List (ClassId × FieldType)} {ad : Nat → Nat} {aC : Nat → ClassId} {Ex : State → Prop} {base mi n0 c0 l0 s0 : Nat}
variable {pc n sl d : Nat} {L : ai_L} {st : List Value} {M : ai_M} {cfg : ai_C} {k : Nat → ai_L → List Value → Nat → Nat → ai_M → Option ai_C} {cr : Nat → List Value → Nat → Nat → ai_M → Option ai_C}
theorem ai_after {H : Heap} {locs : List Loc} {ls : Array Slot} {cells slots mc ms n' : Nat} {st0 rest r : List Value} {M' : ai_M} {a : Array Value} (hr1 : r.length ≤ 1) (hr : va_Run p l e R s m args below meth c H locs cells slots mc ms (F0 m pc ls st0) rest (ai_Qc G cl D ad aC base n' M' r a) (fun q => base ≤ q)) (hS : va_S (fun q => base ≤ q) s.heap H locs)
    (kk : ∀ (H1 : Heap) (locs1 : List Loc), va_P D cl (ai_w ad aC n' M') H1 → (G.1 = true → H1.size = base + n') → n' ≤ 900000 → va_S (fun q => base ≤ q) s.heap H1 locs1 → W p l e R s m args below meth c H1 locs1 (cells + mc) (slots + ms) Q (F0 m (pc + 3) ls (r.map (ai_cv ad) ++ rest))) : W p l e R s m args below meth c H locs cells slots Q (F0 m pc ls st0) := by
  intro T0 hT X
  obtain ⟨v, st₀, t, T', Ll, h0, X', hL, e1, e2, ⟨⟨hv, hB1, hB2, hB3⟩, hz, hk⟩, st⟩ := hr T0 hT X
  cases hv
  rw [h0] at hz hk
  rw [← e1] at hB1 hB2
  obtain ⟨t2, a1, b1⟩ := kk T'.heap (locs ++ Ll) hB1 hB2 hB3 ⟨Nat.le_trans hS.1 (by rw [e1]; exact hz), fun q h1 h2 => by rw [e1, hk q (Nat.lt_of_lt_of_le h1 hS.1) h2]; exact hS.2.1 q h1 h2, fun q hq => by
      rcases List.mem_append.mp hq with h | h
      · exact hS.2.2 q h
      · exact hL q h⟩ T' rfl X'
  refine ⟨t2, st t2 ?_, b1⟩
  have : (r.map (ai_cv ad)).head?.toList = r.map (ai_cv ad) := by
    match r, hr1 with
    | [], _ => rfl
    | [x], _ => rfl
  rw [this]
  exact a1
theorem ai_rs_len {rt : Option FieldType} {i : Option (Instr × Nat)} {st r : List Value} (h : ai_rs rt i st = some r) : r.length ≤ 1 := by
  unfold ai_rs at h
  split at h
  · cases h; simp
  · cases h; simp
  · split at h
    · cases h; simp
    · cases h
  · cases h; simp
  · cases h
/-- what the callee's run gives -/
def ai_Cr (l : Launch) (T : ai_T) (G : ai_G) (cl : List vw_C) (cc : Nat → ByteArray) (on : Nat → String) (tb : List Cond) (D : va_G) (tys : List (ClassId × FieldType)) (ad : Nat → Nat) (aC : Nat → ClassId) (Ex : State → Prop) (base d : Nat) (cr : Nat → List Value → Nat → Nat → ai_M → Option ai_C) : Prop :=
  ∀ (mj : Nat) (vs : List Value) (n sl : Nat) (M : ai_M) (z : ai_C), cr mj vs n sl M = some z → n ≤ z.2.2.2.1 ∧ sl ≤ z.2.2.2.2.1 ∧ ∀ (p : Program) (e : Env) (R : Room) (s : State) (m : MethodId) (args : Array Value) (below : List Frame) (meth : Method) (c : Code) (Q : State → Prop) (n0 c0 l0 s0 : Nat), ai_Cx T cl cc on tb D tys Ex base mj p s m args meth c → d ≤ R.frames → 60 * d ≤ R.locals → c0 + z.2.2.2.1 ≤ R.cells + n0 ∧ s0 + z.2.2.2.2.1 ≤ R.slots + l0 → ai_Go p l e R s m args below meth c Q D cl ad aC base (ai_mx T mj) n0 c0 l0 s0 G.1 z → ai_Go p l e R s m args below meth c Q D cl ad aC base (ai_mx T mj) n0 c0 l0 s0 G.1 (0, ai_en vs (ai_mx T mj), [], n, sl, M)
set_option maxHeartbeats 4000000 in
theorem ai_go_sim (hdec : ∀ mi pc i len, ai_dec T mi pc = some (i, len) → decode (cc mi) pc = .ok (i, len)) {mj na kd : Nat} (hy1 : (yn mj).cls = on (ai_own T mj)) (hy2 : plainName (yn mj).cls = true) (hy3 : ai_ini T mj = true → (yn mj).name = "<init>")
    (hroom : c0 + cfg.2.2.2.1 ≤ R.cells + n0 ∧ s0 + cfg.2.2.2.2.1 ≤ R.slots + l0)
    (hcr : ai_Cr l T G cl cc on tb D tys ad aC Ex base d cr)
    (hk : ∀ (pc' : Nat) (L' : ai_L) (st' : List Value) (n' sl' : Nat) (M' : ai_M), k pc' L' st' n' sl' M' = some cfg → ai_Go p l e R s m args below meth c Q D cl ad aC base (ai_mx T mi) n0 c0 l0 s0 G.1 (pc', L', st', n', sl', M') ∧ n' ≤ cfg.2.2.2.1 ∧ sl' ≤ cfg.2.2.2.2.1)
    (hrun : ∀ (nn : Nat) (H : Heap) (locs : List Loc) (ls : Array Slot) (cells slots mc ms n' : Nat) (M' : ai_M) (r : List Value), nn = (if kd = 1 then na else na + 1) → nn ≤ st.length → ai_sm (st.drop nn) ≤ 8 → ai_mx T mj ≤ 41 → va_P D cl (ai_w ad aC n M) H → va_S (fun q => base ≤ q) s.heap H locs → (G.1 = true → H.size = base + n) → n ≤ 900000 → ai_H ad ls (ai_mx T mi) L → cells + mc ≤ R.cells ∧ slots + ms ≤ R.slots → Met l (yn mj) (Cond.code (yn mj) (cc mj) (ai_mx T mj) (ai_rt T mj) :: tb) (ai_rm d mc ms) (ai_Pc G cl D tys ad aC Ex base n M (st.take nn).reverse) (ai_Qc G cl D ad aC base n' M' r) mc ms (fun q => base ≤ q) → va_Run p l e R s m args below meth c H locs cells slots mc ms (F0 m pc ls (st.map (ai_cv ad))) ((st.drop nn).map (ai_cv ad)) (ai_Qc G cl D ad aC base n' M' r ((st.take nn).reverse.map (ai_cv ad)).toArray) (fun q => base ≤ q))
    (h : ai_go T mj na kd pc L st n sl M cr k = some cfg) : ai_Go p l e R s m args below meth c Q D cl ad aC base (ai_mx T mi) n0 c0 l0 s0 G.1 (pc, L, st, n, sl, M) ∧ n ≤ cfg.2.2.2.1 ∧ sl ≤ cfg.2.2.2.2.1 := by
  unfold ai_go at h
  dsimp only at h
  generalize hnn : (if kd = 1 then na else na + 1) = nn at h
  obtain ⟨⟨g1, g2, g3, g4⟩, h⟩ := ai_if_some h
  split at h
  · rename_i pc1 L1 st1 n1 sl1 M1 hc1
    split at h
    · rename_i r hrs
      obtain ⟨f1, f2, f3⟩ := hcr _ _ _ _ _ _ hc1
      simp only at f1 f2
      obtain ⟨h1, h2, h3⟩ := hk _ _ _ _ _ _ h
      refine ⟨?_, by omega, by omega⟩
      intro H locs ls cells slots e1 e2 hP hS hg hn hl
      simp only at e1 e2 hn
      have hM := ai_met (l := l) (T := T) (G := G) (cl := cl) (cc := cc) (yn := yn) (on := on) (tb := tb) (D := D) (tys := tys) (ad := ad) (aC := aC) (Ex := Ex) (base := base) hdec (mj := mj) (d := d) (n := n) (sl := sl) (vs := (st.take nn).reverse) (M := M) (n' := n1) (sl' := sl1) (L' := L1) (M' := M1) hy1 hy2 hy3 g3 f1 f2 hrs f3
      have hfit : cells + (n1 - n) ≤ R.cells ∧ slots + (sl1 - sl) ≤ R.slots := by omega
      refine ai_after (G := G) (ai_rs_len hrs) (hrun nn H locs ls cells slots (n1 - n) (sl1 - sl) n1 M1 r hnn.symm g1 g2 g4 hP hS hg hn hl hfit hM) hS (fun H1 locs1 hP1 hg1 hn1 hS1 => ?_)
      have h4 := h1 H1 locs1 ls (cells + (n1 - n)) (slots + (sl1 - sl)) (by simp only; omega) (by simp only; omega) hP1 hS1 hg1 hn1 hl
      simp only [List.map_append] at h4
      exact h4
    · cases h
  · cases h
end AIZ
