/-! THE MACHINE DOES WHAT THE INTERPRETER DOES, IV: one instruction on cells -/
section AIQ
/-- what holds of the machine's state throughout a method of the program -/
def ai_Cx (T : ai_T) (cl : List vw_C) (cc : Nat → ByteArray) (on : Nat → String) (tb : List Cond) (D : va_G) (tys : List (ClassId × FieldType)) (Ex : State → Prop) (base mi : Nat) (p : Program) (s : State) (m : MethodId) (args : Array Value) (meth : Method) (c : Code) : Prop :=
  p.tables.exec = Jvm.exec ∧ c.code = cc mi ∧ c.maxLocals = ai_mx T mi ∧ s.vm.findClass (on (ai_own T mi)) = some m.cls ∧ (ai_ini T mi = true → meth.name = "<init>") ∧ (∀ w ∈ tb, w.before args s = true) ∧ va_K D cl tys s ∧ Ex s ∧ base ≤ s.heap.size
/-- the tables are right: fields, made objects, constants, arrays -/
def ai_okM (T : ai_T) (G : ai_G) (cl : List vw_C) (on : Nat → String) (tb : List Cond) (tys : List (ClassId × FieldType)) (ad : Nat → Nat) (aC : Nat → ClassId) (Ex : State → Prop) (base : Nat) : Prop :=
  (∀ c j ci kf fin, ai_pool T c j = some (0, ci, kf, fin) → ai_okF T cl on tb c j ci kf fin) ∧
  (∀ c j ci a b, ai_pool T c j = some (2, ci, a, b) → ai_okN T cl on tb c j ci) ∧
  (∀ c j v a b, ai_pool T c j = some (7, v, a, b) → Cond.constant (on c) j (Int32.ofNat v) ∈ tb) ∧
  (∀ c j v a b, ai_pool T c j = some (8, v, a, b) → Cond.constantLong (on c) j (Int64.ofNat v) ∈ tb) ∧
  (∀ kd ci r, ai_kob T kd = some ci → cl[ci]? = some r → ∀ U, Ex U → va_AO r.1 U) ∧
  (∀ kd ci, ai_kob T kd = some ci → ∃ (t0 : Nat) (r : vw_C), tys[t0]? = some (aC kd, .object r.1) ∧ cl[ci]? = some r) ∧
  (tys[0]? = some (aC 0, .int) ∧ tys[1]? = some (aC 1, .byte) ∧ tys[2]? = some (aC 2, .boolean) ∧ tys[3]? = some (aC 3, .long)) ∧
  (Cond.arrayClass .int ∈ tb ∧ Cond.arrayClass .byte ∈ tb ∧ Cond.arrayClass .boolean ∈ tb ∧ Cond.arrayClass .long ∈ tb) ∧
  (∀ U, Ex U → va_X (ad 1000000) G.2.1 G.2.2 U U.heap ∧ ad 1000000 < base) ∧
  (∀ k, k < 900000 → ad k = base + k)
variable {p : Program} {l : Launch} {e : Env} {R : Room} {s : State} {m : MethodId} {args : Array Value} {below : List Frame} {meth : Method} {c : Code} {Q : State → Prop}
variable {T : ai_T} {G : ai_G} {cl : List vw_C} {cc : Nat → ByteArray} {on : Nat → String} {tb : List Cond} {D : va_G} {tys : List (ClassId × FieldType)} {ad : Nat → Nat} {aC : Nat → ClassId} {Ex : State → Prop} {base mi n0 c0 l0 s0 : Nat}
variable {pc n sl : Nat} {L : ai_L} {st : List Value} {M : ai_M} {cfg : ai_C} {k : Nat → ai_L → List Value → Nat → Nat → ai_M → Option ai_C}
theorem ai_P_eq {w w' : va_W} {H : Heap} (h : w = w') (hP : va_P D cl w H) : va_P D cl w' H := h ▸ hP
/-- what the library's own do at a constant of text -/
def ai_okL (T : ai_T) (cl : List vw_C) (cc : Nat → ByteArray) (on : Nat → String) (tb : List Cond) (D : va_G) (tys : List (ClassId × FieldType)) (ad : Nat → Nat) (Ex : State → Prop) (base : Nat) : Prop :=
  ∀ (p : Program) (l : Launch) (e : Env) (R : Room) (s : State) (m : MethodId) (args : Array Value) (below : List Frame) (meth : Method) (c : Code) (Q : State → Prop) (H : Heap) (locs : List Loc) (cells slots pc mi j id a b : Nat) (ls : Array Slot) (st st' : List Value), ai_Cx T cl cc on tb D tys Ex base mi p s m args meth c → ai_pool T (ai_own T mi) j = some (6, id, a, b) → decode (cc mi) pc = .ok (.ldc j, 2) → ai_hook T id st = some st' → va_S (fun q => base ≤ q) s.heap H locs → W p l e R s m args below meth c H locs cells slots Q (F0 m (pc + 2) ls (st'.map (ai_cv ad))) → W p l e R s m args below meth c H locs cells slots Q (F0 m pc ls (st.map (ai_cv ad)))
set_option maxHeartbeats 8000000 in
theorem ai_m_sim (hok : ai_okM T G cl on tb tys ad aC Ex base) (hL : ai_okL T cl cc on tb D tys ad Ex base) (hC : ai_Cx T cl cc on tb D tys Ex base mi p s m args meth c) {i : Instr} (hdg : decode (cc mi) pc = .ok (i, ai_len i))
    (hroom : c0 + cfg.2.2.2.1 ≤ R.cells + n0 ∧ s0 + cfg.2.2.2.2.1 ≤ R.slots + l0)
    (hk : ∀ (pc' : Nat) (L' : ai_L) (st' : List Value) (n' sl' : Nat) (M' : ai_M), k pc' L' st' n' sl' M' = some cfg → ai_Go p l e R s m args below meth c Q D cl ad aC base (ai_mx T mi) n0 c0 l0 s0 G.1 (pc', L', st', n', sl', M') ∧ n' ≤ cfg.2.2.2.1 ∧ sl' ≤ cfg.2.2.2.2.1)
    (hst : ai_Go p l e R s m args below meth c Q D cl ad aC base (ai_mx T mi) n0 c0 l0 s0 G.1 cfg)
    (h : ai_m none (some (pc, L, st, n, sl, M)) T G (ai_own T mi) (ai_ini T mi) i pc L st n sl M k = some cfg) : ai_Go p l e R s m args below meth c Q D cl ad aC base (ai_mx T mi) n0 c0 l0 s0 G.1 (pc, L, st, n, sl, M) ∧ n ≤ cfg.2.2.2.1 ∧ sl ≤ cfg.2.2.2.2.1 := by
  obtain ⟨okF, okN, ok7, ok8, ok3, okk, ⟨ty0, ty1, ty2, ty3⟩, ⟨ar0, ar1, ar2, ar3⟩, okX, had⟩ := hok
  obtain ⟨hx, hb, hml, hown, hini, hts, hK, hEx, hbase⟩ := id hC
  have hA : ∀ q : Nat, s.heap.size ≤ q → (fun q => base ≤ q) q := fun q h => Nat.le_trans hbase h
  cases i <;> first | (exfalso; simp only [ai_m, reduceCtorEq] at h; done) | skip
  case ldc j =>
    simp only [ai_m] at h
    split at h
    · rename_i v a b hp
      obtain ⟨h1, h2, h3⟩ := hk _ _ _ _ _ _ h
      refine ⟨?_, h2, h3⟩
      intro H locs ls cells slots e1 e2 hP hS hg hn hl
      exact lv_ldc hx hb hown (hts _ (ok7 _ _ _ _ _ hp)) hdg (h1 H locs ls cells slots e1 e2 hP hS hg hn hl)
    · rename_i id a b hp
      split at h
      · rename_i st' hh
        obtain ⟨h1, h2, h3⟩ := hk _ _ _ _ _ _ h
        refine ⟨?_, h2, h3⟩
        intro H locs ls cells slots e1 e2 hP hS hg hn hl
        exact hL p l e R s m args below meth c Q H locs cells slots pc mi j id a b ls st st' hC hp hdg hh hS (h1 H locs ls cells slots e1 e2 hP hS hg hn hl)
      · cases h
    · cases h
  case ldc_w j =>
    simp only [ai_m] at h
    split at h
    · rename_i v a b hp
      obtain ⟨h1, h2, h3⟩ := hk _ _ _ _ _ _ h
      refine ⟨?_, h2, h3⟩
      intro H locs ls cells slots e1 e2 hP hS hg hn hl
      exact lv_ldcw hx hb hown (hts _ (ok7 _ _ _ _ _ hp)) hdg (h1 H locs ls cells slots e1 e2 hP hS hg hn hl)
    · cases h
  case ldc2_w j =>
    simp only [ai_m] at h
    split at h
    · rename_i v a b hp
      obtain ⟨h1, h2, h3⟩ := hk _ _ _ _ _ _ h
      refine ⟨?_, h2, h3⟩
      intro H locs ls cells slots e1 e2 hP hS hg hn hl
      exact lv_ldc2 hx hb hown (hts _ (ok8 _ _ _ _ _ hp)) hdg (h1 H locs ls cells slots e1 e2 hP hS hg hn hl)
    · cases h
  case getfield j =>
    simp only [ai_m] at h
    split at h
    · rename_i ci kf fin o st hp
      obtain ⟨ho, h⟩ := ai_if_some h
      split at h
      · rename_i cj fs hM
        obtain ⟨⟨hci, hkf⟩, hh⟩ := ai_if_some h
        clear h
        subst hci
        split at hh
        · rename_i v hv
          obtain ⟨h1, h2, h3⟩ := hk _ _ _ _ _ _ hh
          refine ⟨?_, h2, h3⟩
          intro H locs ls cells slots e1 e2 hP hS hg hn hl
          obtain ⟨C, F, f1, f2, f3, f4, f5, -, -⟩ := okF _ _ _ _ _ hp hkf
          have hw := ai_w_get (ad := ad) (aC := aC) (M := M) ho
          rw [hM] at hw
          exact va_get (D := D) (v := ai_cv ad v) hx hb hts f2 hown hK hP o hw f1 kf hkf (hts _ f3) (fun _ z => z) (by simp [List.getElem?_map, hv]) hdg (h1 H locs ls cells slots e1 e2 hP hS hg hn hl)
        · cases hh
      · cases h
    · cases h
  case putfield j =>
    simp only [ai_m] at h
    split at h
    · rename_i ci kf fin v o st hp
      obtain ⟨⟨ho, hfi⟩, h⟩ := ai_if_some h
      split at h
      · rename_i cj fs hM
        obtain ⟨⟨hci, hkf, hlen, hft⟩, hh⟩ := ai_if_some h
        clear h
        subst hci
        obtain ⟨h1, h2, h3⟩ := hk _ _ _ _ _ _ hh
        refine ⟨?_, h2, h3⟩
        intro H locs ls cells slots e1 e2 hP hS hg hn hl
        obtain ⟨C, F, f1, f2, f3, f4, f5, f6, f7⟩ := okF _ _ _ _ _ hp hkf
        have hw := ai_w_get (ad := ad) (aC := aC) (M := M) ho
        rw [hM] at hw
        obtain ⟨t1, t2⟩ := ai_ft_of (ad := ad) hft
        refine ai_rput (D := D) hx hb hts f2 (ai_fty T cj) f4 f5 hown hK hP (ai_w_D hn had) hS o hw f1 kf hkf (hts _ f3) ?_ t1 t2 (by simpa using hlen) hdg (fun H1 locs1 z1 hP1 hS1 => h1 H1 locs1 ls cells slots e1 e2 ?_ hS1 (fun q => by rw [z1]; exact hg q) hn hl)
        · rcases hfi with hfi | ⟨hfi, hi2⟩
          · exact Or.inl (f6 hfi)
          · exact Or.inr ⟨(f7 hfi).1, hini hi2, (f7 hfi).2⟩
        · rw [← List.map_set] at hP1
          exact ai_P_eq (ai_w_set (ad := ad) (aC := aC) (n := n) (M := M) (k := o) (.inr (cj, fs.set kf v))) hP1
      · cases h
    · cases h
  case iaload =>
    simp only [ai_m] at h
    split at h
    · rename_i x o st
      split at h
      · rename_i ho
        split at h
        · rename_i kd N f hM
          obtain ⟨⟨hkd, hib⟩, hh⟩ := ai_if_some h
          clear h
          subst hkd
          obtain ⟨h1, h2, h3⟩ := hk _ _ _ _ _ _ hh
          refine ⟨?_, h2, h3⟩
          intro H locs ls cells slots e1 e2 hP hS hg hn hl
          have hw := ai_w_get (ad := ad) (aC := aC) (M := M) ho
          rw [hM] at hw
          exact va_iald hx hb hK hP o 0 hw ty0 (ai_ib_of hib) hdg (h1 H locs ls cells slots e1 e2 hP hS hg hn hl)
        · cases h
      · obtain ⟨⟨ho, hib⟩, hh⟩ := ai_if_some h
        clear h
        subst ho
        obtain ⟨h1, h2, h3⟩ := hk _ _ _ _ _ _ hh
        refine ⟨?_, h2, h3⟩
        intro H locs ls cells slots e1 e2 hP hS hg hn hl
        obtain ⟨x1, x2⟩ := okX s hEx
        exact va_sld hx hb x1 (Nat.lt_of_lt_of_le x2 hbase) (Nat.not_le.mpr x2) hS (ai_ib_of hib) hdg (h1 H locs ls cells slots e1 e2 hP hS hg hn hl)
    · cases h
  case baload =>
    simp only [ai_m] at h
    split at h
    · rename_i x o st
      obtain ⟨ho, h⟩ := ai_if_some h
      split at h
      · rename_i kd N f hM
        obtain ⟨⟨hkd, hib⟩, hh⟩ := ai_if_some h
        clear h
        obtain ⟨h1, h2, h3⟩ := hk _ _ _ _ _ _ hh
        refine ⟨?_, h2, h3⟩
        intro H locs ls cells slots e1 e2 hP hS hg hn hl
        have hw := ai_w_get (ad := ad) (aC := aC) (M := M) ho
        rw [hM] at hw
        rcases hkd with hkd | hkd
        · subst hkd
          exact va_bald hx hb hK hP o 1 hw ty1 (ai_ib_of hib) hdg (h1 H locs ls cells slots e1 e2 hP hS hg hn hl)
        · subst hkd
          exact va_zald hx hb hK hP o 2 hw ty2 (ai_ib_of hib) hdg (h1 H locs ls cells slots e1 e2 hP hS hg hn hl)
      · cases h
    · cases h
  case laload =>
    simp only [ai_m] at h
    split at h
    · rename_i x o st
      obtain ⟨ho, h⟩ := ai_if_some h
      split at h
      · rename_i kd N f hM
        obtain ⟨⟨hkd, hib⟩, hh⟩ := ai_if_some h
        clear h
        subst hkd
        obtain ⟨h1, h2, h3⟩ := hk _ _ _ _ _ _ hh
        refine ⟨?_, h2, h3⟩
        intro H locs ls cells slots e1 e2 hP hS hg hn hl
        have hw := ai_w_get (ad := ad) (aC := aC) (M := M) ho
        rw [hM] at hw
        exact va_lald hx hb hK hP o 3 hw ty3 (ai_ib_of hib) hdg (h1 H locs ls cells slots e1 e2 hP hS hg hn hl)
      · cases h
    · cases h
  case aaload =>
    simp only [ai_m] at h
    split at h
    · rename_i x o st
      obtain ⟨ho, h⟩ := ai_if_some h
      split at h
      · rename_i kd N f hM
        obtain ⟨⟨hkd, hib⟩, hh⟩ := ai_if_some h
        clear h
        obtain ⟨ci, hci⟩ := Option.isSome_iff_exists.mp hkd
        obtain ⟨t0, r, k1, k2⟩ := okk _ _ hci
        split at hh
        · rename_i r1 hr1
          obtain ⟨h1, h2, h3⟩ := hk _ _ _ _ _ _ hh
          refine ⟨?_, h2, h3⟩
          intro H locs ls cells slots e1 e2 hP hS hg hn hl
          have hw := ai_w_get (ad := ad) (aC := aC) (M := M) ho
          rw [hM] at hw
          refine va_aldq hx hb hK hP o t0 hw k1 (ai_ib_of hib) hdg ?_
          have h4 := h1 H locs ls cells slots e1 e2 hP hS hg hn hl
          show W p l e R s m args below meth c H locs cells slots Q (F0 m (pc + 1) ls (va_rf ((f x.toNatClampNeg).map ad) :: List.map (ai_cv ad) st))
          rw [hr1]
          exact h4
        · cases hh
      · cases h
    · cases h
  case arraylength =>
    simp only [ai_m] at h
    split at h
    · rename_i o st
      split at h
      · rename_i ho
        split at h
        · rename_i kd N f hM
          obtain ⟨hkd, hh⟩ := ai_if_some h
          clear h
          obtain ⟨h1, h2, h3⟩ := hk _ _ _ _ _ _ hh
          refine ⟨?_, h2, h3⟩
          intro H locs ls cells slots e1 e2 hP hS hg hn hl
          have hw := ai_w_get (ad := ad) (aC := aC) (M := M) ho
          rw [hM] at hw
          rcases (show ∀ q : Nat, q < 3 → q = 0 ∨ q = 1 ∨ q = 2 by omega) kd hkd with hkd | hkd | hkd
          · subst hkd
            exact va_alen hx hb hK hP o 0 hw ty0 rfl hdg (h1 H locs ls cells slots e1 e2 hP hS hg hn hl)
          · subst hkd
            exact va_alen hx hb hK hP o 1 hw ty1 rfl hdg (h1 H locs ls cells slots e1 e2 hP hS hg hn hl)
          · subst hkd
            exact va_alen hx hb hK hP o 2 hw ty2 rfl hdg (h1 H locs ls cells slots e1 e2 hP hS hg hn hl)
        · cases h
      · obtain ⟨ho, hh⟩ := ai_if_some h
        clear h
        subst ho
        obtain ⟨h1, h2, h3⟩ := hk _ _ _ _ _ _ hh
        refine ⟨?_, h2, h3⟩
        intro H locs ls cells slots e1 e2 hP hS hg hn hl
        obtain ⟨x1, x2⟩ := okX s hEx
        exact va_slen hx hb x1 (Nat.lt_of_lt_of_le x2 hbase) (Nat.not_le.mpr x2) hS hdg (h1 H locs ls cells slots e1 e2 hP hS hg hn hl)
    · cases h
  case iastore =>
    simp only [ai_m] at h
    split at h
    · rename_i v x o st
      obtain ⟨ho, h⟩ := ai_if_some h
      split at h
      · rename_i kd N f hM
        obtain ⟨⟨hkd, hib⟩, hh⟩ := ai_if_some h
        clear h
        subst hkd
        obtain ⟨h1, h2, h3⟩ := hk _ _ _ _ _ _ hh
        refine ⟨?_, h2, h3⟩
        intro H locs ls cells slots e1 e2 hP hS hg hn hl
        have hw := ai_w_get (ad := ad) (aC := aC) (M := M) ho
        rw [hM] at hw
        exact ai_riast hx hb hK hP (ai_w_D hn had) hS o 0 hw ty0 (ai_ib_of hib) hdg (fun H1 locs1 z1 hP1 hS1 => h1 H1 locs1 ls cells slots e1 e2 (ai_P_eq (ai_w_set (ad := ad) (aC := aC) (n := n) (M := M) (k := o) (.inl (0, N, .inl (upd f x.toNatClampNeg v)))) hP1) hS1 (fun q => by rw [z1]; exact hg q) hn hl)
      · cases h
    · cases h
  case lastore =>
    simp only [ai_m] at h
    split at h
    · rename_i v x o st
      obtain ⟨ho, h⟩ := ai_if_some h
      split at h
      · rename_i kd N f hM
        obtain ⟨⟨hkd, hib⟩, hh⟩ := ai_if_some h
        clear h
        subst hkd
        obtain ⟨h1, h2, h3⟩ := hk _ _ _ _ _ _ hh
        refine ⟨?_, h2, h3⟩
        intro H locs ls cells slots e1 e2 hP hS hg hn hl
        have hw := ai_w_get (ad := ad) (aC := aC) (M := M) ho
        rw [hM] at hw
        exact ai_rlast hx hb hK hP (ai_w_D hn had) hS o 3 hw ty3 (ai_ib_of hib) hdg (fun H1 locs1 z1 hP1 hS1 => h1 H1 locs1 ls cells slots e1 e2 (ai_P_eq (ai_w_set (ad := ad) (aC := aC) (n := n) (M := M) (k := o) (.inl (3, N, .inr (.inl (vp_updL f x.toNatClampNeg v))))) hP1) hS1 (fun q => by rw [z1]; exact hg q) hn hl)
      · cases h
    · cases h
  case bastore =>
    simp only [ai_m] at h
    split at h
    · rename_i v x o st
      obtain ⟨ho, h⟩ := ai_if_some h
      split at h
      · rename_i kd N f hM
        obtain ⟨⟨hG, hkd, hib⟩, hh⟩ := ai_if_some h
        clear h
        obtain ⟨h1, h2, h3⟩ := hk _ _ _ _ _ _ hh
        refine ⟨?_, h2, h3⟩
        intro H locs ls cells slots e1 e2 hP hS hg hn hl
        have hw := ai_w_get (ad := ad) (aC := aC) (M := M) ho
        rw [hM] at hw
        rcases hkd with hkd | hkd
        · subst hkd
          exact va_bast hx hb hK hP (ai_w_D hn had) hS o 1 hw ty1 (ai_ib_of hib) hdg (fun H1 locs1 hP1 _ hS1 => h1 H1 locs1 ls cells slots e1 e2 (ai_P_eq (ai_w_set (ad := ad) (aC := aC) (n := n) (M := M) (k := o) (.inl (1, N, .inl (upd f x.toNatClampNeg (ai_nar 1 v))))) hP1) hS1 (fun q => by rw [hG] at q; cases q) hn hl)
        · subst hkd
          exact va_zast hx hb hK hP (ai_w_D hn had) hS o 2 hw ty2 (ai_ib_of hib) hdg (fun H1 locs1 hP1 _ hS1 => h1 H1 locs1 ls cells slots e1 e2 (ai_P_eq (ai_w_set (ad := ad) (aC := aC) (n := n) (M := M) (k := o) (.inl (2, N, .inl (upd f x.toNatClampNeg (ai_nar 2 v))))) hP1) hS1 (fun q => by rw [hG] at q; cases q) hn hl)
      · cases h
    · cases h
  case aastore =>
    simp only [ai_m] at h
    split at h
    · rename_i r1 x o st
      obtain ⟨⟨ho, hr⟩, h⟩ := ai_if_some h
      split at h
      · rename_i kd N f ci vs hM hMr
        obtain ⟨⟨hkd, hib⟩, hh⟩ := ai_if_some h
        clear h
        obtain ⟨t0, r, k1, k2⟩ := okk _ _ hkd
        obtain ⟨h1, h2, h3⟩ := hk _ _ _ _ _ _ hh
        refine ⟨?_, h2, h3⟩
        intro H locs ls cells slots e1 e2 hP hS hg hn hl
        have hw := ai_w_get (ad := ad) (aC := aC) (M := M) ho
        rw [hM] at hw
        have hw2 := ai_w_get (ad := ad) (aC := aC) (M := M) hr
        rw [hMr] at hw2
        refine ai_rastq hx hb hK hP (ai_w_D hn had) hS o t0 r1 ci hw k1 hw2 k2 (ai_ib_of hib) hdg (fun H1 locs1 z1 hP1 hS1 => h1 H1 locs1 ls cells slots e1 e2 (ai_P_eq (ai_w_set (ad := ad) (aC := aC) (n := n) (M := M) (k := o) (.inl (kd, N, .inr (.inr (.inr (.inr (va_up f x.toNatClampNeg (some r1)))))))) (ai_P_eq ?_ hP1)) hS1 (fun q => by rw [z1]; exact hg q) hn hl)
        have e5 : va_up (fun i => (f i).map ad) x.toNatClampNeg (some (ad r1)) = (fun i => (va_up f x.toNatClampNeg (some r1) i).map ad) := by
          funext q
          by_cases hq : q = x.toNatClampNeg <;> simp [va_up, hq]
        rw [e5]
        rfl
      · cases h
    · cases h
  case newarray ty =>
    simp only [ai_m] at h
    split at h
    · rename_i kd x st hkd
      obtain ⟨⟨hG, hn9, hx0, hxl⟩, hh⟩ := ai_if_some h
      clear h
      obtain ⟨h1, h2, h3⟩ := hk _ _ _ _ _ _ hh
      refine ⟨?_, by omega, by omega⟩
      intro H locs ls cells slots e1 e2 hP hS hg hn hl
      have hsz : H.size = base + n := hg hG
      have hcs : cells + 1 ≤ R.cells := by have := hroom.1; simp only at e1; omega
      have hss : slots + x.toNatClampNeg ≤ R.slots := by have := hroom.2; simp only at e2; omega
      have had1 : ad n = H.size := by rw [hsz]; exact had n hn9
      have fin : ∀ (ty' : FieldType) (t0 : Nat), newarray.typeOf ty = ty' → tys[t0]? = some (aC kd, ty') → Cond.arrayClass ty' ∈ tb → componentBytes ty' ≤ 8 → (∀ cA : ClassId, vp_cell cA (ai_zero kd x.toNatClampNeg) = arrV cA x.toNatClampNeg (fun _ => defaultValue ty')) → (∀ cA, va_RA s cA ty' → s.vm.findClass ("[" ++ ty'.toString) = some cA) → W p l e R s m args below meth c H locs cells slots Q (F0 m pc ls (.int x :: st.map (ai_cv ad))) := by
        intro ty' t0 ety ht har hcb hz hra
        subst ety
        refine va_newaK hx hb (hts _ har) rfl hdg rfl hx0 rfl ?_ hcs hss rfl (fun H1 cA g1 g2 g3 g4 g5 => ?_)
        · have : x.toNatClampNeg * componentBytes (newarray.typeOf ty) ≤ 1000000 * 8 := Nat.mul_le_mul hxl hcb
          omega
        · have ecA : cA = aC kd := Option.some.inj (g5.symm.trans (hra _ (hK.2 t0 _ ht).2))
          subst ecA
          have hPk : va_P D cl (ai_w ad aC n M) H1 := hP.kept (fun q y hy => g3 y.1 ((hP q y hy).lt))
          have hP2 : va_P D cl (ai_w ad aC n M ++ [(ad n, ai_ce ad aC (.inl (kd, ai_zero kd x.toNatClampNeg)))]) H1 := by
            refine hPk.app (fun q y hy => ?_)
            have hq : q < 1 := (List.getElem?_eq_some_iff.mp hy).1
            rw [show q = 0 by omega] at hy
            cases hy
            rw [show ai_ce ad aC (.inl (kd, ai_zero kd x.toNatClampNeg)) = .inl (aC kd, ai_zero kd x.toNatClampNeg) by unfold ai_zero; split <;> rfl]
            show H1[ad n]? = some (vp_cell _ _)
            rw [had1, g1, ← hz]
          have h4 := h1 H1 locs ls (cells + 1) (slots + x.toNatClampNeg) (by simp only at e1 ⊢; omega) (by simp only at e2 ⊢; omega) (ai_P_eq (ai_w_push _) hP2) ⟨Nat.le_trans hS.1 (by omega), fun q y1 y2 => (g3 q (Nat.lt_of_lt_of_le y1 hS.1)).trans (hS.2.1 q y1 y2), hS.2.2⟩ (fun _ => by rw [g2, hsz]; simp only; omega) (by simp only; omega) hl
          show W p l e R s m args below meth c H1 locs (cells + 1) (slots + x.toNatClampNeg) Q (F0 m (pc + 2) ls (.ref H.size :: st.map (ai_cv ad)))
          rw [← had1]
          exact h4
      cases ty <;> simp only [ai_kd, reduceCtorEq, Option.some.injEq] at hkd
      · subst hkd
        exact fin .boolean 2 rfl ty2 ar2 (by decide) (fun cA => rfl) (fun cA z => z)
      · subst hkd
        exact fin .byte 1 rfl ty1 ar1 (by decide) (fun cA => rfl) (fun cA z => z)
      · subst hkd
        exact fin .int 0 rfl ty0 ar0 (by decide) (fun cA => rfl) (fun cA z => z)
      · subst hkd
        exact fin .long 3 rfl ty3 ar3 (by decide) (fun cA => rfl) (fun cA z => z)
    · cases h
  case anewarray j =>
    simp only [ai_m] at h
    split at h
    · rename_i ci kd b x st hp
      obtain ⟨⟨hkb, hG, hn9, hx0, hxl⟩, hh⟩ := ai_if_some h
      clear h
      obtain ⟨h1, h2, h3⟩ := hk _ _ _ _ _ _ hh
      refine ⟨?_, by omega, by omega⟩
      intro H locs ls cells slots e1 e2 hP hS hg hn hl
      have hsz : H.size = base + n := hg hG
      have hcs : cells + 1 ≤ R.cells := by have := hroom.1; simp only at e1; omega
      have hss : slots + x.toNatClampNeg ≤ R.slots := by have := hroom.2; simp only at e2; omega
      have had1 : ad n = H.size := by rw [hsz]; exact had n hn9
      obtain ⟨C, F, y1, -, -, k1, -, -⟩ := okN _ _ _ _ _ hp
      obtain ⟨t0, r, k3, y2⟩ := okk _ _ hkb
      cases (y2.symm.trans y1)
      refine W.anew hx hb hown (hts _ k1) (va_AO.use (ok3 _ _ _ hkb y1 s hEx)) rfl hdg rfl hx0 (by omega) hcs hss (fun cA kA comp f1 f2 f3 f4 => ?_)
      generalize hH1 : H.push ({ cls := cA, slots := Array.replicate x.toNatClampNeg .null, vm := .none } : Cell) = H1
      have z1 : H1.size = H.size + 1 := by rw [← hH1, Array.size_push]
      have g1 : H1[H.size]? = some (arrV cA x.toNatClampNeg (fun _ => .null)) := by rw [← hH1, Array.getElem?_push_size, ← arrV_new]
      have g3 : ∀ q : Nat, q < H.size → H1[q]? = H[q]? := fun q hq => by rw [← hH1, Array.getElem?_push, if_neg (Nat.ne_of_lt hq)]
      obtain ⟨kA', comp', y1, y2, y3, y4⟩ := (hK.2 t0 _ k3).2
      have ecA : cA = aC kd := Option.some.inj (f1.symm.trans y4)
      subst ecA
      have hPk : va_P D cl (ai_w ad aC n M) H1 := hP.kept (fun q y hy => g3 y.1 ((hP q y hy).lt))
      have hP2 : va_P D cl (ai_w ad aC n M ++ [(ad n, ai_ce ad aC (.inl (kd, x.toNatClampNeg, .inr (.inr (.inr (.inr (fun _ => none)))))))]) H1 := by
        refine hPk.app (fun q y hy => ?_)
        have hq : q < 1 := (List.getElem?_eq_some_iff.mp hy).1
        rw [show q = 0 by omega] at hy
        cases hy
        show H1[ad n]? = some (vp_cell _ _)
        rw [had1, g1]
        rfl
      have h4 := h1 H1 locs ls (cells + 1) (slots + x.toNatClampNeg) (by simp only at e1 ⊢; omega) (by simp only at e2 ⊢; omega) (ai_P_eq (ai_w_push _) hP2) ⟨Nat.le_trans hS.1 (by omega), fun q y1 y2 => (g3 q (Nat.lt_of_lt_of_le y1 hS.1)).trans (hS.2.1 q y1 y2), hS.2.2⟩ (fun _ => by rw [z1, hsz]; simp only; omega) (by simp only; omega) hl
      show W p l e R s m args below meth c H1 locs (cells + 1) (slots + x.toNatClampNeg) Q (F0 m (pc + 3) ls (.ref H.size :: st.map (ai_cv ad)))
      rw [← had1]
      exact h4
    · cases h
  case new j =>
    simp only [ai_m] at h
    split at h
    · rename_i ci a b hp
      obtain ⟨⟨hG, hn9⟩, hh⟩ := ai_if_some h
      clear h
      obtain ⟨h1, h2, h3⟩ := hk _ _ _ _ _ _ hh
      refine ⟨?_, by omega, by omega⟩
      intro H locs ls cells slots e1 e2 hP hS hg hn hl
      have hsz : H.size = base + n := hg hG
      have hcs : cells + 1 ≤ R.cells := by have := hroom.1; simp only at e1; omega
      have hss : slots + ai_nf T ci ≤ R.slots := by have := hroom.2; simp only at e2; omega
      have had1 : ad n = H.size := by rw [hsz]; exact had n hn9
      obtain ⟨C, F, k1, k2, k3, k4, k5, k6⟩ := okN _ _ _ _ _ hp
      have hKn := hK.1 ci _ k1
      refine W.newcK hx hb hown (hts _ k4) (hts _ k5) (hts _ k6) rfl hdg hcs hss hKn.2.1 rfl (fun H1 kC hkC g1 z1 g3 => ?_)
      have hPk : va_P D cl (ai_w ad aC n M) H1 := hP.kept (fun q y hy => g3 y.1 ((hP q y hy).lt))
      have hP2 : va_P D cl (ai_w ad aC n M ++ [(ad n, ai_ce ad aC (ai_new T ci))]) H1 := by
        refine hPk.app (fun q y hy => ?_)
        have hq : q < 1 := (List.getElem?_eq_some_iff.mp hy).1
        rw [show q = 0 by omega] at hy
        cases hy
        rw [had1]
        refine ⟨_, k1, (u_born (ai_fty T ci) hts k2 hKn hkC g1 k3).to (fun j hj => ?_)⟩
        have hj' : j < ai_nf T ci := hj
        simp only [vp_V, List.getD_eq_getElem?_getD, List.getElem?_map, List.getElem?_range hj', Option.map_some, Option.getD_some]
        cases ai_fty T ci j <;> rfl
      have h4 := h1 H1 locs ls (cells + 1) (slots + ai_nf T ci) (by simp only at e1 ⊢; omega) (by simp only at e2 ⊢; omega) (ai_P_eq (ai_w_push _) hP2) ⟨Nat.le_trans hS.1 (by omega), fun q y1 y2 => (g3 q (Nat.lt_of_lt_of_le y1 hS.1)).trans (hS.2.1 q y1 y2), hS.2.2⟩ (fun _ => by rw [z1, hsz]; simp only; omega) (by simp only; omega) hl
      show W p l e R s m args below meth c H1 locs (cells + 1) (slots + ai_nf T ci) Q (F0 m (pc + 3) ls (.ref H.size :: st.map (ai_cv ad)))
      rw [← had1]
      exact h4
    · rename_i hp
      cases h
      exact ⟨hst, Nat.le_refl _, Nat.le_refl _⟩
    · cases h
end AIQ
