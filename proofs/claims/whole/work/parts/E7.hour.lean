/-! HOUR: the reference -/
section RHZ
variable {G : ai_G} {d sl : Nat} {Y : mY} {P S p : Nat} {l k : Nat → Nat → Int32}
set_option maxHeartbeats 8000000 in
theorem level_free {Q : List Value → Nat → Nat → ai_M → Prop} {n : Nat} {X : mX} {pr : Nat → Int32} {met : Int32} {z : Zh} {v5 : Option Value} (hP : P ≤ 8) (hp : p < P) (ih : LV G d sl Y P S l k (p + 1) (fun met pr z => hT l k P n (p + 1) met pr z)) (hL : LSb (X 201) l) (hk : KS (X 201) k P S) (h : HR (X 210) (X 211) pr P p) (hm : X 211 p = mi1) (h10 : X 210 p = mi1) (hz : ZR X z P) (hQ : ∀ X' v5, FH X X' p → ZR X' (hT l k P (n + 1) p met pr z) P → aw ET G (d + 2) 236 47 [some (.ref 199), some (.int (nI P)), some (.int (hT l k P (n + 1) p met pr z).2), some (.int met), some (.int (lvlI p)), v5] [] 231 sl (mem X' Y) Q) : aw ET G (d + 2) 236 47 [some (.ref 199), some (.int (nI P)), some (.int z.2), some (.int met), some (.int (nI p)), v5] [] 231 sl (mem X Y) Q := by
  have hfr := HR_free h hP
  have hpr : pr p = 0 := (hfr p hp).mp (by rw [hm]; decide)
  have hwy := fun (Q : List Value → Nat → Nat → ai_M → Prop) => way_0 (G := G) (d := d) (sl := sl) (Q := Q) (X := X) (Y := Y) (l := l) (k := k) (P := P) (S := S) hL hk hp
  have e0 : metV l p 0 = nI 0 := by unfold metV; rw [if_pos rfl]
  have e1 : nwP pr p 0 = pr := by unfold nwP; rw [if_pos rfl]
  have hs := hV_skip (l := l) (k := k) (T := fun met pr z => hT l k P n (p + 1) met pr z) (mt := X 211) (met := met) hfr hP hp (p + 1) 0 8 (hT l k P n (p + 1) met pr z) (by omega) (by omega)
  rw [hT_free hp hpr, ← hs] at hQ
  have n17 : ¬ mi1 = nI 17 := by decide
  have hneg : mi1 < nI 0 := by decide
  rw [w236_47]
  simp (disch := omega) [w236_49, w236_52, w236_54, w236_55, w236_132, x236_133, w236_136, w236_138, w236_139, w236_140, w236_143, w236_144, w236_147, w236_148, w236_150, w236_152, w236_155, x236_156, w236_159, w236_161, w236_162, w236_194, x236_195, w236_198, w236_200, w236_201, w236_203, w236_212, w236_214, w236_233, x236_234, w236_237, w236_239, w236_240, w236_242, x236_243, w236_246, w236_248, x236_249, w236_252, rt236, aw_st, ai_cls, ai_len, ai_p, ai_sw, ai_m, ai_c, ai_at, ai_isI, ai_isJ, ai_isA, ai_ld, ai_1i, ai_2i, ai_2l, ai_cn, ai_j, ai_set, ai_set2, ai_nl, ai_rs, ai_sm, Value.category, hk0, hk1, lits, litb, litm, litm2, List.getElem?_cons_zero, List.getElem?_cons_succ, or_n0, bit_r, fi0, fi1, fi2, fi3, nI_toInt, nI_add, pk_mul, nI_leI, nI_ltI, nI_eq, pk_sub, ib_nI, nI_clamp, va_up_self, va_up_ne, va_up_up, va_up_comm, pk_us, pk_un, upd_up, updL_up, pk_uLs, pk_uLn, b01_1, b01_0, b01_1s, b01_0s, or_b, mm200, mu200, mm201, mu201, mm202, mu202, mm203, mu203, mm204, mu204, mm205, mu205, mm206, mu206, mm207, mu207, mm208, mu208, mm209, mu209, mm210, mu210, mm211, mu211, mm212, mu212, mm213, mu213, mm214, mu214, mm215, mu215, mm216, mu216, mm217, mu217, mm218, mu218, mm219, mu219, mm220, mu220, mm221, mu221, mm222, mu222, mm223, mu223, mm224, mu224, mm225, mu225, mm226, mu226, mm227, mu227, mm228, mu228, mm229, mu229, mm230, mu230, h10, hm, hwy, n17, n0mi, hneg, show ¬ p = P by omega]
  refine ways (T := fun met pr z => hT l k P n (p + 1) met pr z) (pr := pr) (mt := X 211) hP hp ih hm 16 16 0 (va_up X 210 (upd (X 210) p (nI 0))) z _ (by omega) (by omega) (Or.inl rfl) (by rw [va_up_ne _ _ (by omega)]; exact hL) (by rw [va_up_ne _ _ (by omega)]; exact hk) (by rw [va_up_self]; exact HR_cg h (fun i hi => by rw [pk_un (by omega)])) (by rw [va_up_ne _ _ (by omega)]) (by rw [va_up_self, pk_us]) (ZR_cg hz (va_up_ne _ _ (by omega))) (fun X3 u5 f3 z3 => ?_)
  rw [e0, e1, add0] at z3 ⊢
  exact hQ X3 u5 ((FH_210 (fun i hi => by rw [pk_un (by omega)])).tr f3) z3
theorem level_all (hP : P ≤ 8) : ∀ (r n p : Nat), p + r = P → r ≤ n → LV G d sl Y P S l k p (fun met pr z => hT l k P n p met pr z) := by
  intro r
  induction r with
  | zero =>
    intro n p hp hn
    have : p = P := by omega
    subst this
    have e : (fun (met : Int32) (pr : Nat → Int32) (z : Zh) => hT l k p n p met pr z) = fun met pr z => hkeep pr met z := by
      funext met pr z
      exact hT_leaf
    rw [e]
    exact level_P hP
  | succ r ih =>
    intro n p hp hn Q X pr met z v5 hL hk h h10 hz hQ
    by_cases hm : X 211 p = mi1
    · obtain ⟨n', rfl⟩ : ∃ n', n = n' + 1 := ⟨n - 1, by omega⟩
      exact level_free hP (by omega) (ih n' (p + 1) (by omega) (by omega)) hL hk h hm (h10 (by omega)) hz hQ
    · have hpr : ¬ pr p = 0 := fun q => hm (HR_neg h hP (by omega) ((HR_free h hP p (by omega)).mpr q))
      have e := hT_skip (l := l) (k := k) (n := n) (met := met) (z := z) (show p < P by omega) (by omega) hpr
      dsimp only at hQ
      rw [e] at hQ
      exact level_mated (T := fun met pr z => hT l k P n (p + 1) met pr z) hP (by omega) (ih n (p + 1) (by omega) (by omega)) hL hk h hm (h10 (by omega)) hz hQ
theorem hkeep_ge (pr : Nat → Int32) (met : Int32) (z : Zh) : z.2 ≤ (hkeep pr met z).2 ∧ met ≤ (hkeep pr met z).2 := by
  unfold hkeep
  split
  · rename_i h; exact ⟨Int32.le_of_lt h, Int32.le_refl _⟩
  · rename_i h; exact ⟨Int32.le_refl _, Int32.not_lt.mp h⟩
theorem hLoop_ge {T : Int32 → (Nat → Int32) → Zh → Zh} (hT : ∀ m pr z, z.2 ≤ (T m pr z).2) {pr : Nat → Int32} {met : Int32} : ∀ (c q : Nat) (z : Zh), z.2 ≤ (hLoop T l k pr p met q c z).2 := by
  intro c
  induction c with
  | zero => intro q z; exact Int32.le_refl _
  | succ c ih =>
    intro q z
    unfold hLoop
    refine Int32.le_trans ?_ (ih _ _)
    split
    · unfold hStep
      split <;> split
      · exact Int32.le_trans (hT _ _ _) (hT _ _ _)
      · exact hT _ _ _
      · exact hT _ _ _
      · exact Int32.le_refl _
    · exact Int32.le_refl _
theorem hT_ge : ∀ (n fr : Nat) (met : Int32) (pr : Nat → Int32) (z : Zh), z.2 ≤ (hT l k P n fr met pr z).2 ∧ met ≤ (hT l k P n fr met pr z).2 := by
  intro n
  induction n with
  | zero => intro fr met pr z; exact hkeep_ge _ _ _
  | succ n ih =>
    intro fr met pr z
    unfold hT
    split
    · have h1 := ih (hfp pr (P - fr) fr + 1) met pr z
      have h2 := hLoop_ge (l := l) (k := k) (p := hfp pr (P - fr) fr) (pr := pr) (met := met) (T := fun m pr' z => hT l k P n (hfp pr (P - fr) fr + 1) m pr' z) (fun m pr z => (ih _ m pr z).1) (P - (hfp pr (P - fr) fr + 1)) (hfp pr (P - fr) fr + 1) (hT l k P n (hfp pr (P - fr) fr + 1) met pr z)
      exact ⟨Int32.le_trans h1.1 h2, Int32.le_trans h1.2 h2⟩
    · exact hkeep_ge _ _ _
end RHZ
