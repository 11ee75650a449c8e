/-! THE LAW'S BODY: the calls that may throw -/
section LWF
variable {l : Launch} {base b w v L sl i n c0 s0 : Nat} {xs : Nat → Int32} {aC : Nat → ClassId} {D : va_G} {X : mX} {Y : mY} {u : ai_L}
variable {p : Program} {e : Env} {R : Room} {s : State} {m : MethodId} {args : Array Value} {below : List Frame} {meth : Method} {c : Code} {Q : State → Prop}
/-- the machine comes to its end from here, c0 cells and s0 slots being made -/
def lGo (base b w sl : Nat) (D : va_G) (aC : Nat → ClassId) (p : Program) (l : Launch) (e : Env) (R : Room) (s : State) (m : MethodId) (args : Array Value) (below : List Frame) (meth : Method) (c : Code) (Q : State → Prop) (c0 s0 : Nat) (z : ai_C) : Prop := ai_Go p l e R s m args below meth c Q D vwCl (et_ad base b w) aC base (ai_mx ET 289) 231 c0 sl s0 false z
theorem lgo_it {z : ai_C} (hC : ai_Cx ET vwCl et_cc et_on et_tb D (et_tys aC) (lEx base b w v L xs) base 289 p s m args meth c) (hfr : 69 ≤ R.frames) (hlo : 3760 ≤ R.locals) (hc : c0 ≤ R.cells) (hs : s0 ≤ R.slots)
    (h : awi ET (lG L xs) 61 289 z (fun z' => z'.2.2.2.1 = 231 ∧ z'.2.2.2.2.1 = sl ∧ lGo base b w sl D aC p l e R s m args below meth c Q c0 s0 z')) : lGo base b w sl D aC p l e R s m args below meth c Q c0 s0 z := by
  obtain ⟨f, k, z', hit, h1, h2, h3⟩ := h
  exact (ai_it_sim2 (lOK (base := base) (b := b) (w := w) (v := v) (aC := aC) (D := D) (G := lG L xs) (L := L) (xs := xs) rfl) (f := f) (d := 61) (mi := 289) k _ _ hit).2.2 p e R s m args below meth c Q 231 c0 sl s0 hC hfr hlo ⟨by omega, by omega⟩ h3
theorem lgo_call {pc idx mc ms mxw : Nat} {y : MethodName} {bytes : ByteArray} {hh : List (Nat × Nat × Nat × Nat)} {vs : List Value} {M' : ai_M} {kv : Int32} {Lc : ai_L}
    (hM : Met l y (Cond.codeWith y bytes mxw (some .int) hh :: et_tb) (ai_rm2 60 mc ms) (ai_Pc (lG L xs) vwCl D (et_tys aC) (et_ad base b w) aC (lEx base b w v L xs) base 231 (mem X Y) vs) (ai_Qc (lG L xs) vwCl D (et_ad base b w) aC base 231 M' [.int kv]) mc ms (fun q => base ≤ q))
    (hcw : Cond.codeWith y bytes mxw (some .int) hh ∈ et_tb) (hlk : Cond.methodLink "EarTownLaw" idx y ∈ et_tb) (hst : Cond.static y ∈ et_tb) (hini : Cond.initialized y.cls ∈ et_tb) (hy : y.cls ≠ "java/lang/invoke/MethodHandle" ∧ y.cls ≠ "java/lang/invoke/VarHandle") (hlen : (parseMethodDescriptor y.desc).map (fun d => d.parameters.length) = some vs.length) (hmx : mxw ≤ 8)
    (hd : decode (et_cc 289) pc = .ok (.invokestatic idx, 3)) (hC : ai_Cx ET vwCl et_cc et_on et_tb D (et_tys aC) (lEx base b w v L xs) base 289 p s m args meth c) (hfr : 69 ≤ R.frames) (hlo : 3760 ≤ R.locals) (hc : c0 + mc ≤ R.cells) (hs : s0 + ms ≤ R.slots)
    (hk : lGo base b w sl D aC p l e R s m args below meth c Q (c0 + mc) (s0 + ms) (pc + 3, Lc, [.int kv], 231, sl, M')) : lGo base b w sl D aC p l e R s m args below meth c Q c0 s0 (pc, Lc, vs.reverse, 231, sl, mem X Y) := by
  obtain ⟨hx, hb, hml, hown, -, hts, hK, hEx, hbase⟩ := id hC
  have hown' : s.vm.findClass "EarTownLaw" = some m.cls := by
    have e : et_on (ai_own ET 289) = "EarTownLaw" := by decide +kernel
    rw [← e]
    exact hown
  intro H locs ls cells slots e1 e2 hP hS hg hn hl
  have e1' : cells = c0 := by simp only at e1; omega
  have e2' : slots = s0 := by simp only at e2; omega
  subst e1'; subst e2'
  obtain ⟨hdec, okC, ok4, ok5, htb, hExW, hExC⟩ := lS (base := base) (b := b) (w := w) (v := v) (L := L) (xs := xs)
  have cw : vx_CSW R s args "EarTownLaw" idx y bytes mxw (some .int) hh (Cond.codeWith y bytes mxw (some .int) hh :: et_tb) (ai_rm2 60 mc ms) mc ms vs.length := by
    refine ⟨⟨rfl, rfl, hfr, ?_, ?_, List.mem_cons_self⟩, hts _ hcw, hts _ hini, hy, fun sig hsig => ?_, hts _ hlk, hts _ hst⟩
    · show 8 + (mxw + 11) + (60 * 60 + 100) ≤ R.locals
      omega
    · refine pay_in hts (fun w' hw => ?_)
      rcases List.mem_cons.mp hw with rfl | hw
      · exact ⟨hcw, htb _ hcw⟩
      · exact ⟨hw, htb _ hw⟩
    · rw [hsig] at hlen
      exact (Option.some.inj hlen).symm
  refine ai_after (G := lG L xs) (r := [.int kv]) (n' := 231) (M' := M') (mc := mc) (ms := ms) (pc := pc) (ls := ls) (rest := []) (Nat.le_refl 1) (vx_runSW (p := p) (l := l) (e := e) (below := below) (meth := meth) (H := H) (locs := locs) (Ts := et_tb) (own := "EarTownLaw") (cc := et_cc 289) (nL := ai_mx ET 289) (As := vs.map (ai_cv (et_ad base b w))) (rest := []) (g := F0 m pc ls (vs.reverse.map (ai_cv (et_ad base b w)))) ⟨hx, hb, hml, hown', hts⟩ hM cw ⟨lPc_blind, lPc_pre (vs := vs) hK hEx hbase hP hS hn⟩ rfl (by simp) hl.2.1 (by simp [F0, List.map_reverse]) (lv_room (Nat.le_of_ble_eq_true rfl)) hd ⟨hc, hs⟩) hS (fun H1 locs1 hP1 hg1 hn1 hS1 => ?_)
  exact hk H1 locs1 ls _ _ rfl rfl hP1 hS1 (fun h => by cases h) hn1 hl
theorem en3 {x y : Int32} : ai_en [.ref 0, .int x, .int y] (ai_mx ET 174) = [some (.ref 0), some (.int x), some (.int y)] := by rw [show ai_mx ET 174 = 3 by decide +kernel]; rfl
theorem en5 {x y : Int32} : ai_en [.ref 0, .int x, .int y] (ai_mx ET 173) = [some (.ref 0), some (.int x), some (.int y), none, none] := by rw [mx173]; rfl
theorem en12 {x y z o q : Int32} : ai_en [.ref 0, .int x, .int y, .int z, .int o, .int q] (ai_mx ET 175) = [some (.ref 0), some (.int x), some (.int y), some (.int z), some (.int o), some (.int q), none, none, none, none, none, none] := by rw [show ai_mx ET 175 = 12 by decide +kernel]; rfl
theorem lw_ini : Cond.initialized "EarTownLaw" ∈ et_tb := et_in_mem (pl := 102) (by decide +kernel)
theorem lw_pn_c : Cond.codeWith yWpn method_3_code 5 (some .int) [((0 : Nat), (10 : Nat), (13 : Nat), (13 : Nat))] ∈ et_tb := et_in_mem (pl := 1323) (by decide +kernel)
theorem lw_pn_l : Cond.methodLink "EarTownLaw" 45 yWpn ∈ et_tb := et_in_mem (pl := 1321) (by decide +kernel)
theorem lw_pn_s : Cond.static yWpn ∈ et_tb := et_in_mem (pl := 1322) (by decide +kernel)
theorem lw_pn_d : decode (et_cc 289) 358 = .ok (.invokestatic 45, 3) := by decide +kernel
set_option maxHeartbeats 4000000 in
theorem law_pn (hfl : l.stackTraces = false) (hL : L ≤ 3072) (hb : i + 6 ≤ L) (h : WW n X Y) (hu : u.length = 3) (hC : ai_Cx ET vwCl et_cc et_on et_tb D (et_tys aC) (lEx base b w v L xs) base 289 p s m args meth c) (hfr : 69 ≤ R.frames) (hlo : 3760 ≤ R.locals) (hc : c0 + 1 ≤ R.cells) (hs : s0 + 6 ≤ R.slots)
    (kk : ∀ (X' : mX) (Y' : mY) (u' : ai_L) (c1 s1 : Nat), u'.length = 3 → c1 ≤ c0 + 1 → s1 ≤ s0 + 6 → WW (n + 1) X' Y' → lGo base b w sl D aC p l e R s m args below meth c Q c1 s1 (23, lL (i + 6) u', [], 231, sl, mem X' Y')) : lGo base b w sl D aC p l e R s m args below meth c Q c0 s0 (344, lL i u, [], 231, sl, mem X Y) := by
  obtain ⟨P, S, nm, hk, hcI, hl, hi, hnm, hsn⟩ := h.now
  match u, hu with
  | [A1, B1, C1], _ =>
  refine lgo_it hC hfr hlo (by omega) (by omega) (sg1_pn_run hL hb ⟨rfl, rfl, ?_⟩)
  cases hc9 : (pI P (xs (i + 1)) && pI 11 (xs (i + 2)))
  · have hM := wr_pn_thr (d := 59) (nsMet (K := 173) (d := 59) (sl := sl) (v := v) (L := L) (xs := xs) (D := D) (aC := aC) (base := base) (b := b) (w := w) (X := X) (Y := Y) (vs := [.ref 0, .int (xs (i + 1)), .int (xs (i + 2))]) hfl (by decide) (by rw [show ai_mx ET 173 = 5 by decide +kernel]; exact Nat.le_of_ble_eq_true rfl) (by
      rw [en5]
      obtain ⟨f, k, z', h1, h2⟩ := pn_thr (d := 58) hk.1 hk.2.2.1 hc9
      exact ⟨f, k, z', h1, h2.1, Or.inl ⟨rfl, h2.2⟩⟩))
    rw [of1] at hM
    refine lgo_call (vs := [.ref 0, .int (xs (i + 1)), .int (xs (i + 2)), .ref 230]) (mc := 1) (ms := 6) hM lw_pn_c lw_pn_l lw_pn_s lw_ini (by decide) (show (parseMethodDescriptor yWpn.desc).map (fun d => d.parameters.length) = some 4 by decide +kernel) (by decide) lw_pn_d hC hfr hlo hc hs ?_
    refine lgo_it hC hfr hlo hc hs ?_
    refine sg2_pn_run (k := 1) (t := 1) (r := 0) hL hb (fun Q => ?_) rfl (Or.inl rfl) (tail ⟨rfl, rfl, kk _ _ _ _ _ rfl (Nat.le_refl _) (Nat.le_refl _) (WW_mono (WW_tz h))⟩)
    rw [person_eq (d := 58) hl.1 hk, hc9]
    rfl
  · have hM := wr_pn_ret (d := 59) (r := persV (lv X 61) (cv X 47) (iN (xs (i + 1))) (iN (xs (i + 2)))) (lwMet (K := 173) (d := 59) (sl := sl) (l := l) (v := v) (L := L) (xs := xs) (D := D) (aC := aC) (base := base) (b := b) (w := w) (X := X) (Y := Y) (vs := [.ref 0, .int (xs (i + 1)), .int (xs (i + 2))]) (r := [.int (persV (lv X 61) (cv X 47) (iN (xs (i + 1))) (iN (xs (i + 2))))]) (M' := mem X Y) (by decide) (by rw [show ai_mx ET 173 = 5 by decide +kernel]; exact Nat.le_of_ble_eq_true rfl) (by
      rw [en5, tperson_eq (d := 56) hk.1 hk.2.2.1 hc9]
      exact ⟨rfl, rfl, rfl, rfl⟩))
    rw [of0] at hM
    refine lgo_call (vs := [.ref 0, .int (xs (i + 1)), .int (xs (i + 2)), .ref 230]) (mc := 0) (ms := 0) hM lw_pn_c lw_pn_l lw_pn_s lw_ini (by decide) (show (parseMethodDescriptor yWpn.desc).map (fun d => d.parameters.length) = some 4 by decide +kernel) (by decide) lw_pn_d hC hfr hlo (by omega) (by omega) ?_
    refine lgo_it hC hfr hlo (by omega) (by omega) ?_
    refine sg2_pn_run (k := 0) (t := 0) (r := persV (lv X 61) (cv X 47) (iN (xs (i + 1))) (iN (xs (i + 2)))) hL hb (fun Q => ?_) rfl (Or.inr ⟨rfl, ?_⟩) (tail ⟨rfl, rfl, kk _ _ _ _ _ rfl (by omega) (by omega) (WW_out h)⟩)
    · rw [person_eq (d := 58) hl.1 hk, hc9]
      rfl
    · simp [va_up, vp_updL]
theorem lw_st_c : Cond.codeWith yWst method_4_code 5 (some .int) [((0 : Nat), (10 : Nat), (13 : Nat), (13 : Nat))] ∈ et_tb := et_in_mem (pl := 1397) (by decide +kernel)
theorem lw_st_l : Cond.methodLink "EarTownLaw" 58 yWst ∈ et_tb := et_in_mem (pl := 1395) (by decide +kernel)
theorem lw_st_s : Cond.static yWst ∈ et_tb := et_in_mem (pl := 1396) (by decide +kernel)
theorem lw_st_d : decode (et_cc 289) 463 = .ok (.invokestatic 58, 3) := by decide +kernel
set_option maxHeartbeats 4000000 in
theorem law_st (hfl : l.stackTraces = false) (hL : L ≤ 3072) (hb : i + 6 ≤ L) (h : WW n X Y) (hu : u.length = 3) (hC : ai_Cx ET vwCl et_cc et_on et_tb D (et_tys aC) (lEx base b w v L xs) base 289 p s m args meth c) (hfr : 69 ≤ R.frames) (hlo : 3760 ≤ R.locals) (hc : c0 + 1 ≤ R.cells) (hs : s0 + 6 ≤ R.slots)
    (kk : ∀ (X' : mX) (Y' : mY) (u' : ai_L) (c1 s1 : Nat), u'.length = 3 → c1 ≤ c0 + 1 → s1 ≤ s0 + 6 → WW (n + 1) X' Y' → lGo base b w sl D aC p l e R s m args below meth c Q c1 s1 (23, lL (i + 6) u', [], 231, sl, mem X' Y')) : lGo base b w sl D aC p l e R s m args below meth c Q c0 s0 (449, lL i u, [], 231, sl, mem X Y) := by
  obtain ⟨P, S, nm, hk, hcI, hl, hi, hnm, hsn⟩ := h.now
  match u, hu with
  | [A1, B1, C1], _ =>
  refine lgo_it hC hfr hlo (by omega) (by omega) (sg1_st_run hL hb ⟨rfl, rfl, ?_⟩)
  cases hc9 : (pI S (xs (i + 1)) && pI 4 (xs (i + 2)))
  · have hM := wr_st_thr (d := 59) (nsMet (K := 174) (d := 59) (sl := sl) (v := v) (L := L) (xs := xs) (D := D) (aC := aC) (base := base) (b := b) (w := w) (X := X) (Y := Y) (vs := [.ref 0, .int (xs (i + 1)), .int (xs (i + 2))]) hfl (by decide) (by rw [show ai_mx ET 174 = 3 by decide +kernel]; exact Nat.le_of_ble_eq_true rfl) (by
      rw [en3]
      obtain ⟨f, k, z', h1, h2⟩ := st_thr (d := 58) hk.2.1 hk.2.2.2.1 hc9
      exact ⟨f, k, z', h1, h2.1, Or.inr (Or.inl ⟨rfl, h2.2⟩)⟩))
    rw [of1] at hM
    refine lgo_call (vs := [.ref 0, .int (xs (i + 1)), .int (xs (i + 2)), .ref 230]) (mc := 1) (ms := 6) hM lw_st_c lw_st_l lw_st_s lw_ini (by decide) (show (parseMethodDescriptor yWst.desc).map (fun d => d.parameters.length) = some 4 by decide +kernel) (by decide) lw_st_d hC hfr hlo hc hs ?_
    refine lgo_it hC hfr hlo hc hs ?_
    refine sg2_st_run (k := 1) (t := 1) (r := 0) hL hb (fun Q => ?_) rfl (Or.inl rfl) (tail ⟨rfl, rfl, kk _ _ _ _ _ rfl (Nat.le_refl _) (Nat.le_refl _) (WW_mono (WW_tz h))⟩)
    rw [story_eq (d := 58) hl.1 hk, hc9]
    rfl
  · have hM := wr_st_ret (d := 59) (r := storV (lv X 61) (cv X 47) (iN (xs (i + 1))) (iN (xs (i + 2)))) (lwMet (K := 174) (d := 59) (sl := sl) (l := l) (v := v) (L := L) (xs := xs) (D := D) (aC := aC) (base := base) (b := b) (w := w) (X := X) (Y := Y) (vs := [.ref 0, .int (xs (i + 1)), .int (xs (i + 2))]) (r := [.int (storV (lv X 61) (cv X 47) (iN (xs (i + 1))) (iN (xs (i + 2))))]) (M' := mem X Y) (by decide) (by rw [show ai_mx ET 174 = 3 by decide +kernel]; exact Nat.le_of_ble_eq_true rfl) (by
      rw [en3, tstory_eq (d := 55) hk.2.1 hk.2.2.2.1 hc9]
      exact ⟨rfl, rfl, rfl, rfl⟩))
    rw [of0] at hM
    refine lgo_call (vs := [.ref 0, .int (xs (i + 1)), .int (xs (i + 2)), .ref 230]) (mc := 0) (ms := 0) hM lw_st_c lw_st_l lw_st_s lw_ini (by decide) (show (parseMethodDescriptor yWst.desc).map (fun d => d.parameters.length) = some 4 by decide +kernel) (by decide) lw_st_d hC hfr hlo (by omega) (by omega) ?_
    refine lgo_it hC hfr hlo (by omega) (by omega) ?_
    refine sg2_st_run (k := 0) (t := 0) (r := storV (lv X 61) (cv X 47) (iN (xs (i + 1))) (iN (xs (i + 2)))) hL hb (fun Q => ?_) rfl (Or.inr ⟨rfl, ?_⟩) (tail ⟨rfl, rfl, kk _ _ _ _ _ rfl (by omega) (by omega) (WW_out h)⟩)
    · rw [story_eq (d := 58) hl.1 hk, hc9]
      rfl
    · simp [va_up, vp_updL]
theorem lw_gf_c : Cond.codeWith yWgf method_5_code 8 (some .int) [((0 : Nat), (15 : Nat), (18 : Nat), (13 : Nat))] ∈ et_tb := et_in_mem (pl := 1407) (by decide +kernel)
theorem lw_gf_l : Cond.methodLink "EarTownLaw" 127 yWgf ∈ et_tb := et_in_mem (pl := 1405) (by decide +kernel)
theorem lw_gf_s : Cond.static yWgf ∈ et_tb := et_in_mem (pl := 1406) (by decide +kernel)
theorem lw_gf_d : decode (et_cc 289) 949 = .ok (.invokestatic 127, 3) := by decide +kernel
set_option maxHeartbeats 4000000 in
theorem law_gf (hfl : l.stackTraces = false) (hL : L ≤ 3072) (hb : i + 6 ≤ L) (h : WW n X Y) (hu : u.length = 3) (hC : ai_Cx ET vwCl et_cc et_on et_tb D (et_tys aC) (lEx base b w v L xs) base 289 p s m args meth c) (hfr : 69 ≤ R.frames) (hlo : 3760 ≤ R.locals) (hc : c0 + 1 ≤ R.cells) (hs : s0 + 6 ≤ R.slots)
    (kk : ∀ (X' : mX) (Y' : mY) (u' : ai_L) (c1 s1 : Nat), u'.length = 3 → c1 ≤ c0 + 1 → s1 ≤ s0 + 6 → WW (n + 1) X' Y' → lGo base b w sl D aC p l e R s m args below meth c Q c1 s1 (23, lL (i + 6) u', [], 231, sl, mem X' Y')) : lGo base b w sl D aC p l e R s m args below meth c Q c0 s0 (917, lL i u, [], 231, sl, mem X Y) := by
  obtain ⟨P, S, nm, hk, hcI, hl, hi, hnm, hsn⟩ := h.now
  match u, hu with
  | [A1, B1, C1], _ =>
  refine lgo_it hC hfr hlo (by omega) (by omega) (sg1_gf_run hL hb ⟨rfl, rfl, ?_⟩)
  cases hc9 : okF (xs (i + 1)) (xs (i + 2)) (xs (i + 3)) (xs (i + 4)) (xs (i + 5))
  · have hM := wr_gf_thr (d := 59) (nsMet (K := 175) (d := 59) (sl := sl) (v := v) (L := L) (xs := xs) (D := D) (aC := aC) (base := base) (b := b) (w := w) (X := X) (Y := Y) (vs := [.ref 0, .int (xs (i + 1)), .int (xs (i + 2)), .int (xs (i + 3)), .int (xs (i + 4)), .int (xs (i + 5))]) hfl (by decide) (by rw [show ai_mx ET 175 = 12 by decide +kernel]; exact Nat.le_of_ble_eq_true rfl) (by
      rw [en12]
      obtain ⟨f, k, z', h1, h2⟩ := gf_thr (d := 58) hc9
      exact ⟨f, k, z', h1, h2.1, Or.inr (Or.inr ⟨rfl, h2.2⟩)⟩))
    rw [of1] at hM
    refine lgo_call (vs := [.ref 0, .int (xs (i + 1)), .int (xs (i + 2)), .int (xs (i + 3)), .int (xs (i + 4)), .int (xs (i + 5)), .ref 230]) (mc := 1) (ms := 6) hM lw_gf_c lw_gf_l lw_gf_s lw_ini (by decide) (show (parseMethodDescriptor yWgf.desc).map (fun d => d.parameters.length) = some 7 by decide +kernel) (by decide) lw_gf_d hC hfr hlo hc hs ?_
    refine lgo_it hC hfr hlo hc hs ?_
    refine sg2_gf_run (k := 1) (t := 1) (r := 0) hL hb (fun Q => ?_) rfl (Or.inl rfl) (tail ⟨rfl, rfl, kk _ _ _ _ _ rfl (Nat.le_refl _) (Nat.le_refl _) (WW_mono (WW_tz h))⟩)
    rw [rgriefs_eq (d := 58), hc9]
    rfl
  · have hM := wr_gf_ret (d := 59) (r := lN (griV (iN (xs (i + 1))) (iN (xs (i + 2))) (iN (xs (i + 3))) (iN (xs (i + 4))) (iN (xs (i + 5))))) (lwMet (K := 175) (d := 59) (sl := sl) (l := l) (v := v) (L := L) (xs := xs) (D := D) (aC := aC) (base := base) (b := b) (w := w) (X := X) (Y := Y) (vs := [.ref 0, .int (xs (i + 1)), .int (xs (i + 2)), .int (xs (i + 3)), .int (xs (i + 4)), .int (xs (i + 5))]) (r := [.long (lN (griV (iN (xs (i + 1))) (iN (xs (i + 2))) (iN (xs (i + 3))) (iN (xs (i + 4))) (iN (xs (i + 5)))))]) (M' := mem X Y) (by decide) (by rw [show ai_mx ET 175 = 12 by decide +kernel]; exact Nat.le_of_ble_eq_true rfl) (by
      rw [en12, griefs_eq (d := 57) hc9]
      exact ⟨rfl, rfl, rfl, rfl⟩))
    rw [of0] at hM
    refine lgo_call (vs := [.ref 0, .int (xs (i + 1)), .int (xs (i + 2)), .int (xs (i + 3)), .int (xs (i + 4)), .int (xs (i + 5)), .ref 230]) (mc := 0) (ms := 0) hM lw_gf_c lw_gf_l lw_gf_s lw_ini (by decide) (show (parseMethodDescriptor yWgf.desc).map (fun d => d.parameters.length) = some 7 by decide +kernel) (by decide) lw_gf_d hC hfr hlo (by omega) (by omega) ?_
    refine lgo_it hC hfr hlo (by omega) (by omega) ?_
    refine sg2_gf_run (k := 0) (t := 0) (r := lN (griV (iN (xs (i + 1))) (iN (xs (i + 2))) (iN (xs (i + 3))) (iN (xs (i + 4))) (iN (xs (i + 5))))) hL hb (fun Q => ?_) rfl (Or.inr ⟨rfl, ?_⟩) (tail ⟨rfl, rfl, kk _ _ _ _ _ rfl (by omega) (by omega) (WW_out h)⟩)
    · rw [rgriefs_eq (d := 58), hc9]
      rfl
    · simp [va_up, vp_updL]
end LWF
