/-! THE LAW'S BODY: the loop -/
section LWG
variable {l : Launch} {base b w v L sl CB SB : Nat} {xs : Nat → Int32} {aC : Nat → ClassId} {D : va_G}
variable {p : Program} {e : Env} {R : Room} {s : State} {m : MethodId} {args : Array Value} {below : List Frame} {meth : Method} {c : Code} {Q : State → Prop}
set_option maxHeartbeats 4000000 in
theorem law_loop (hfl : l.stackTraces = false) (hL : L ≤ 3072) (hC : ai_Cx ET vwCl et_cc et_on et_tb D (et_tys aC) (lEx base b w v L xs) base 289 p s m args meth c) (hfr : 69 ≤ R.frames) (hlo : 3760 ≤ R.locals) (hCB : CB ≤ R.cells) (hSB : SB ≤ R.slots)
    (hend : ∀ (X' : mX) (Y' : mY) (u' : ai_L) (i' c1 s1 : Nat), c1 ≤ CB → s1 ≤ SB → lGo base b w sl D aC p l e R s m args below meth c Q c1 s1 (1584, lL i' u', [.int 1], 231, sl, mem X' Y')) :
    ∀ (r n c0 s0 : Nat) (X : mX) (Y : mY) (u : ai_L), u.length = 3 → L < 6 * (n + r) + 6 → n + r ≤ 512 → c0 + r ≤ CB → s0 + 6 * r ≤ SB → WW n X Y → lGo base b w sl D aC p l e R s m args below meth c Q c0 s0 (23, lL (6 * n) u, [], 231, sl, mem X Y) := by
  intro r
  induction r with
  | zero =>
    intro n c0 s0 X Y u hu h1 h2 h3 h4 h
    exact lgo_it hC hfr hlo (by omega) (by omega) (head_out hL (by omega) (by omega) ⟨rfl, rfl, hend _ _ _ _ _ _ (by omega) (by omega)⟩)
  | succ r ih =>
    intro n c0 s0 X Y u hu h1 h2 h3 h4 h
    by_cases hb : 6 * n + 6 ≤ L
    · have kk : ∀ (X' : mX) (Y' : mY) (u' : ai_L) (c1 s1 : Nat), u'.length = 3 → c1 ≤ c0 + 1 → s1 ≤ s0 + 6 → WW (n + 1) X' Y' → lGo base b w sl D aC p l e R s m args below meth c Q c1 s1 (23, lL (6 * n + 6) u', [], 231, sl, mem X' Y') := by
        intro X' Y' u' c1 s1 hu' hc1 hs1 hw
        exact ih (n + 1) c1 s1 X' Y' u' hu' (by omega) (by omega) (by omega) (by omega) hw
      refine lgo_it hC hfr hlo (by omega) (by omega) (head_in hL hb (fun k hk ek => ?_))
      by_cases h4' : k = 4
      · subst h4'
        exact awi_0 ⟨rfl, rfl, law_pn hfl hL hb h hu hC hfr hlo (by omega) (by omega) kk⟩
      by_cases h6 : k = 6
      · subst h6
        exact awi_0 ⟨rfl, rfl, law_st hfl hL hb h hu hC hfr hlo (by omega) (by omega) kk⟩
      by_cases h23 : k = 23
      · subst h23
        exact awi_0 ⟨rfl, rfl, law_gf hfl hL hb h hu hC hfr hlo (by omega) (by omega) kk⟩
      obtain ⟨f, j, z', g1, X', Y', hw, rfl⟩ := round (w := u) (sl := sl) (xs := xs) hL hb (by omega) h hk h4' h6 h23
      exact ⟨f, j, _, g1, rfl, rfl, kk _ _ _ _ _ hu (by omega) (by omega) hw⟩
    · exact lgo_it hC hfr hlo (by omega) (by omega) (head_out hL (by omega) (by omega) ⟨rfl, rfl, hend _ _ _ _ _ _ (by omega) (by omega)⟩)
end LWG
