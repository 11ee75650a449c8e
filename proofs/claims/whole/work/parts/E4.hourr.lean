/-! HOUR: the reference, levels kept -/
section RHR
variable {G : ai_G} {d sl : Nat} {Q : List Value → Nat → Nat → ai_M → Prop} {Y : mY} {X : mX} {P S p q v : Nat} {l k : Nat → Nat → Int32} {hw mt pr : Nat → Int32}
theorem HR_cg {hw' : Nat → Int32} (h : HR hw mt pr P p) (g : ∀ i, i < p → hw' i = hw i) : HR hw' mt pr P p := by
  intro i hi
  rcases h i hi with ⟨a, b, c⟩ | ⟨b, h1, h2, h3, h4, h5⟩ | ⟨a, h1, h2, h3, h4, h5, h6⟩
  · exact Or.inl ⟨a, b, fun q => by rw [g i q]; exact c q⟩
  · exact Or.inr (Or.inl ⟨b, h1, h2, h3, h4, by rw [g i h3]; exact h5⟩)
  · exact Or.inr (Or.inr ⟨a, h1, h2, h3, h4, fun q => by rw [g i q]; exact h5 q, by rw [g a h2]; exact h6⟩)
theorem HR_idle (h : HR hw mt pr P p) (hm : mt p = mi1) (hP : P ≤ 8) : HR (upd hw p (nI 0)) mt pr P (p + 1) := by
  intro i hi
  rcases h i hi with ⟨a, b, c⟩ | ⟨b, h1, h2, h3, h4, h5⟩ | ⟨a, h1, h2, h3, h4, h5, h6⟩
  · refine Or.inl ⟨a, b, fun q => ?_⟩
    by_cases e : i = p
    · rw [e, pk_us]
    · rw [pk_un e]; exact c (by omega)
  · exact Or.inr (Or.inl ⟨b, h1, h2, by omega, h4, by rw [pk_un (by omega)]; exact h5⟩)
  · have e : ¬ i = p := fun e => by rw [e, hm] at h3; exact nI_mi1 (by omega) h3.symm
    exact Or.inr (Or.inr ⟨a, h1, by omega, h3, h4, fun q => by rw [pk_un e]; exact h5 (by omega), by rw [pk_un (by omega)]; exact h6⟩)
theorem HR_17 (h : HR hw mt pr P p) (hm : ¬ mt p = mi1) : HR (upd hw p (nI 17)) mt pr P (p + 1) := by
  intro i hi
  rcases h i hi with ⟨a, b, c⟩ | ⟨b, h1, h2, h3, h4, h5⟩ | ⟨a, h1, h2, h3, h4, h5, h6⟩
  · have e : ¬ i = p := fun e => hm (by rw [← e]; exact a)
    exact Or.inl ⟨a, b, fun q => by rw [pk_un e]; exact c (by omega)⟩
  · exact Or.inr (Or.inl ⟨b, h1, h2, by omega, h4, by rw [pk_un (by omega)]; exact h5⟩)
  · refine Or.inr (Or.inr ⟨a, h1, by omega, h3, h4, fun q => ?_, by rw [pk_un (by omega)]; exact h6⟩)
    by_cases e : i = p
    · rw [e, pk_us]
    · rw [pk_un e]; exact h5 (by omega)
theorem HR_free (h : HR hw mt pr P p) (hP : P ≤ 8) : ∀ i, i < P → (mt i < nI 0 ↔ pr i = 0) := by
  intro i hi
  rcases h i hi with ⟨a, b, c⟩ | ⟨b, h1, h2, h3, h4, h5⟩ | ⟨a, h1, h2, h3, h4, h5, h6⟩
  · rw [a, b]; decide
  · have e1 : ¬ mt i < nI 0 := by rw [h4, nI_ltI (by omega) (by omega)]; omega
    have e2 : ¬ pr i = 0 := by
      rcases h5 with ⟨-, e⟩ | ⟨-, e⟩ <;> rw [e, show (0 : Int32) = nI 0 from rfl, nI_eq (by omega) (by omega)] <;> omega
    exact ⟨fun q => absurd q e1, fun q => absurd q e2⟩
  · have e1 : ¬ mt i < nI 0 := by rw [h3, nI_ltI (by omega) (by omega)]; omega
    have e2 : ¬ pr i = 0 := by
      rcases h6 with ⟨-, e⟩ | ⟨-, e⟩ <;> rw [e, show (0 : Int32) = nI 0 from rfl, nI_eq (by omega) (by omega)] <;> omega
    exact ⟨fun q => absurd q e1, fun q => absurd q e2⟩
theorem HR_pair (h : HR hw mt pr P p) (hm : mt p = mi1) (hP : P ≤ 8) (hpq : p < q) (hq : q < P) (hmq : mt q = mi1) (hv : v = 2 * q + 1 ∨ v = 2 * q + 2) : HR (upd hw p (nI v)) (upd (upd mt p (nI q)) q (nI p)) (nwP pr p v) P (p + 1) := by
  have r3 : (nI 300 - nI 100 + nI p : Int32) = nI (200 + p) := by rw [pk_sub (by omega), nI_add]
  have r4 : (nI 300 - nI 200 + nI p : Int32) = nI (100 + p) := by rw [pk_sub (by omega), nI_add]
  have hn : (v = 2 * q + 1 ∧ nwP pr p v = upd (upd pr p (nI (100 + q))) q (nI (200 + p))) ∨ (v = 2 * q + 2 ∧ nwP pr p v = upd (upd pr p (nI (200 + q))) q (nI (100 + p))) := by
    rcases hv with e | e
    · refine Or.inl ⟨e, ?_⟩
      unfold nwP
      rw [if_neg (by omega), if_pos (by omega), show (v - 1) / 2 = q by omega]
      unfold hpair
      rw [r3, nI_add]
    · refine Or.inr ⟨e, ?_⟩
      unfold nwP
      rw [if_neg (by omega), if_neg (by omega), show (v - 1) / 2 = q by omega]
      unfold hpair
      rw [r4, nI_add]
  intro i hi
  by_cases ep : i = p
  · subst ep
    refine Or.inr (Or.inl ⟨q, hpq, hq, by omega, by rw [pk_un (by omega), pk_us], ?_⟩)
    rcases hn with ⟨e, f⟩ | ⟨e, f⟩
    · exact Or.inl ⟨by rw [pk_us, e], by rw [f, pk_un (by omega), pk_us]⟩
    · exact Or.inr ⟨by rw [pk_us, e], by rw [f, pk_un (by omega), pk_us]⟩
  · by_cases eq : i = q
    · subst eq
      refine Or.inr (Or.inr ⟨p, hpq, by omega, by rw [pk_us], by rw [pk_un (by omega), pk_us], fun z => by omega, ?_⟩)
      rcases hn with ⟨e, f⟩ | ⟨e, f⟩
      · exact Or.inl ⟨by rw [pk_us, e], by rw [f, pk_us]⟩
      · exact Or.inr ⟨by rw [pk_us, e], by rw [f, pk_us]⟩
    · have e1 : nwP pr p v i = pr i := by rcases hn with ⟨_, f⟩ | ⟨_, f⟩ <;> rw [f, pk_un eq, pk_un ep]
      have e2 : upd (upd mt p (nI q)) q (nI p) i = mt i := by rw [pk_un eq, pk_un ep]
      unfold HR1
      rw [e1, e2, pk_un ep]
      rcases h i hi with ⟨a, b, c⟩ | ⟨b, h1, h2, h3, h4, h5⟩ | ⟨a, h1, h2, h3, h4, h5, h6⟩
      · exact Or.inl ⟨a, b, fun z => c (by omega)⟩
      · exact Or.inr (Or.inl ⟨b, h1, h2, by omega, h4, h5⟩)
      · have ha : ¬ a = q := by omega
        exact Or.inr (Or.inr ⟨a, h1, by omega, h3, by rw [pk_un ha, pk_un (by omega)]; exact h4, fun z => h5 (by omega), by rw [pk_un (by omega)]; exact h6⟩)
theorem nxW_ok {T : Int32 → (Nat → Int32) → Zh → Zh} {met : Int32} : ∀ (r v : Nat), (nxW l k P mt p r v = mi1 ∧ ∀ z, hV T l k P mt pr p met r v z = z) ∨ (∃ w, v ≤ w ∧ w < v + r ∧ okW l k P mt p w = true ∧ nxW l k P mt p r v = nI w ∧ ∀ z, hV T l k P mt pr p met r v z = hV T l k P mt pr p met (v + r - (w + 1)) (w + 1) (T (met + metV l p w) (nwP pr p w) z)) := by
  intro r
  induction r with
  | zero => intro v; exact Or.inl ⟨rfl, fun _ => rfl⟩
  | succ r ih =>
    intro v
    by_cases c : okW l k P mt p v = true
    · refine Or.inr ⟨v, by omega, by omega, c, by rw [nxW, if_pos c], fun z => ?_⟩
      rw [hV, if_pos c, show v + (r + 1) - (v + 1) = r by omega]
    · rcases ih (v + 1) with ⟨a, b⟩ | ⟨w, h1, h2, h3, h4, h5⟩
      · exact Or.inl ⟨by rw [nxW, if_neg c]; exact a, fun z => by rw [hV, if_neg c]; exact b z⟩
      · refine Or.inr ⟨w, by omega, by omega, h3, by rw [nxW, if_neg c]; exact h4, fun z => ?_⟩
        rw [hV, if_neg c, h5, show v + 1 + r = v + (r + 1) by omega]
theorem way_eq (hL : LSb (X 201) l) (hk : KS (X 201) k P S) (hp : p < P) (hv : v < 17) : aw ET G (d + 1) 240 0 [some (.ref 199), some (.int (nI p)), some (.int (nI v)), none, none] [] 231 sl (mem X Y) Q = Q [.int (nxW l k P (X 211) p (16 - v) (v + 1))] 231 sl (mem X Y) := by
  have := way_loop (G := G) (d := d) (sl := sl) (Q := Q) (Y := Y) hL hk hp (v2 := nI v) (16 - v) (v + 1) none (by omega)
  simp (disch := omega) [w240_0, w240_1, w240_2, w240_3, rt240, aw_st, ai_cls, ai_len, ai_p, ai_sw, ai_m, ai_c, ai_at, ai_isI, ai_isJ, ai_isA, ai_ld, ai_1i, ai_2i, ai_2l, ai_cn, ai_j, ai_set, ai_set2, ai_nl, ai_rs, ai_sm, Value.category, hk0, hk1, lits, litb, litm, litm2, List.getElem?_cons_zero, List.getElem?_cons_succ, or_n0, bit_r, fi0, fi1, fi2, fi3, nI_toInt, nI_add, pk_mul, nI_leI, nI_ltI, nI_eq, pk_sub, ib_nI, nI_clamp, va_up_self, va_up_ne, va_up_up, va_up_comm, pk_us, pk_un, upd_up, updL_up, pk_uLs, pk_uLn, b01_1, b01_0, b01_1s, b01_0s, or_b, mm200, mu200, mm201, mu201, mm202, mu202, mm203, mu203, mm204, mu204, mm205, mu205, mm206, mu206, mm207, mu207, mm208, mu208, mm209, mu209, mm210, mu210, mm211, mu211, mm212, mu212, mm213, mu213, mm214, mu214, mm215, mu215, mm216, mu216, mm217, mu217, mm218, mu218, mm219, mu219, mm220, mu220, mm221, mu221, mm222, mu222, mm223, mu223, mm224, mu224, mm225, mu225, mm226, mu226, mm227, mu227, mm228, mu228, mm229, mu229, mm230, mu230]
  rw [this]
theorem way_0 (hL : LSb (X 201) l) (hk : KS (X 201) k P S) (hp : p < P) : aw ET G (d + 1) 240 0 [some (.ref 199), some (.int (nI p)), some (.int mi1), none, none] [] 231 sl (mem X Y) Q = Q [.int (nI 0)] 231 sl (mem X Y) := by
  have := way_loop (G := G) (d := d) (sl := sl) (Q := Q) (Y := Y) hL hk hp (v2 := mi1) 17 0 none (by omega)
  have e : nxW l k P (X 211) p 17 0 = nI 0 := by rw [nxW, if_pos (show okW l k P (X 211) p 0 = true from decide_eq_true (Or.inl rfl))]
  have e1 : (mi1 + nI 1 : Int32) = nI 0 := by decide
  rw [e] at this
  simp (disch := omega) [w240_0, w240_1, w240_2, w240_3, rt240, aw_st, ai_cls, ai_len, ai_p, ai_sw, ai_m, ai_c, ai_at, ai_isI, ai_isJ, ai_isA, ai_ld, ai_1i, ai_2i, ai_2l, ai_cn, ai_j, ai_set, ai_set2, ai_nl, ai_rs, ai_sm, Value.category, hk0, hk1, lits, litb, litm, litm2, List.getElem?_cons_zero, List.getElem?_cons_succ, or_n0, bit_r, fi0, fi1, fi2, fi3, nI_toInt, nI_add, pk_mul, nI_leI, nI_ltI, nI_eq, pk_sub, ib_nI, nI_clamp, va_up_self, va_up_ne, va_up_up, va_up_comm, pk_us, pk_un, upd_up, updL_up, pk_uLs, pk_uLn, b01_1, b01_0, b01_1s, b01_0s, or_b, mm200, mu200, mm201, mu201, mm202, mu202, mm203, mu203, mm204, mu204, mm205, mu205, mm206, mu206, mm207, mu207, mm208, mu208, mm209, mu209, mm210, mu210, mm211, mu211, mm212, mu212, mm213, mu213, mm214, mu214, mm215, mu215, mm216, mu216, mm217, mu217, mm218, mu218, mm219, mu219, mm220, mu220, mm221, mu221, mm222, mu222, mm223, mu223, mm224, mu224, mm225, mu225, mm226, mu226, mm227, mu227, mm228, mu228, mm229, mu229, mm230, mu230, e1]
  rw [this]
end RHR
