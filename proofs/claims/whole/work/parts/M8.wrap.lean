/-! THE LAW'S OWN person, story, griefs -/
section WRP
variable {l : Launch} {base b w v L sl d : Nat} {xs : Nat → Int32} {aC : Nat → ClassId} {D : va_G} {X : mX} {Y : mY}
/-- a method that returns -/
theorem lwMet {K : Nat} {vs r : List Value} {M' : ai_M} (hK3 : K = 173 ∨ K = 174 ∨ K = 175) (hlen : (ai_ar vs).length ≤ ai_mx ET K) (h : aw ET (lG L xs) d K 0 (ai_en vs (ai_mx ET K)) [] 231 sl (mem X Y) (fun r' n' sl' M1 => r' = r ∧ n' = 231 ∧ sl' = sl ∧ M1 = M')) :
    Met l (et_y K) (Cond.code (et_y K) (et_cc K) (ai_mx ET K) (ai_rt ET K) :: et_tb) (ai_rm2 d 0 0) (ai_Pc (lG L xs) vwCl D (et_tys aC) (et_ad base b w) aC (lEx base b w v L xs) base 231 (mem X Y) vs) (ai_Qc (lG L xs) vwCl D (et_ad base b w) aC base 231 M' r) 0 0 (fun q => base ≤ q) := by
  have hy := List.all_eq_true.mp ns_y K (List.mem_range.mpr (by omega))
  rw [Bool.or_eq_true, decide_eq_true_eq] at hy
  have hy' := hy.resolve_left (fun h => h hK3)
  rw [Bool.and_eq_true, Bool.and_eq_true, decide_eq_true_eq, decide_eq_true_eq] at hy'
  obtain ⟨⟨hy1, hy2⟩, hy3⟩ := hy'
  obtain ⟨f, ⟨pc', L', st', n', sl', M1⟩, r', hrun, hrs, h1, h2, h3, h4⟩ := h
  dsimp only at hrs h2 h3 h4
  subst h1; subst h2; subst h3; subst h4
  have hOK := lOK (l := l) (base := base) (b := b) (w := w) (v := v) (aC := aC) (D := D) (G := lG L xs) (L := L) (xs := xs) rfl
  have hM := ai_met2 (l := l) (T := ET) (G := lG L xs) (cl := vwCl) (cc := et_cc) (yn := et_y) (on := et_on) (tb := et_tb) (D := D) (tys := et_tys aC) (ad := et_ad base b w) (aC := aC) (Ex := lEx base b w v L xs) (base := base) hOK.2.2.1.1 (mj := K) (d := d) (n := 231) (sl := sl') (vs := vs) (M := mem X Y) (n' := 231) (sl' := sl') (L' := L') (M' := M1) hy1 hy2 (fun z => (Bool.false_ne_true (hy3.symm.trans z)).elim) hlen (Nat.le_refl _) (Nat.le_refl _) hrs (ai_sim2 hOK f d K 0 _ _ _ _ _ _ hrun).2.2
  rw [Nat.sub_self, Nat.sub_self] at hM
  exact hM
theorem lS : ai_okS ET vwCl et_cc et_y et_on et_tb (lEx base b w v L xs) base := by
  have hw : ∀ s U : State, s.WarmedH U.vm → (∀ q : Nat, q < base → U.heap[q]? = s.heap[q]?) → et_Sx base w v (nsE base) s → et_Sx base w v (nsE base) U := fun s U hW hk h => ⟨vk_R.warm hW h.1, tx_S.warm hW.alike hk h.2.1, nsE.warm s U hW hk h.2.2⟩
  have hc : ∀ U V : State, V.vm = U.vm → V.heap = U.heap → et_Sx base w v (nsE base) U → et_Sx base w v (nsE base) V := fun U V hv hh h => ⟨vk_R.same hv h.1, tx_S.warm (by rw [hv]; exact Vm.Alike.refl _) (fun q _ => by rw [hh]) h.2.1, nsE.same U V hv hh h.2.2⟩
  exact et_okS hw hc
section
variable {p : Program} {e : Env} {R : Room} {s : State} {m : MethodId} {args : Array Value} {below : List Frame} {meth : Method} {c : Code} {H : Heap} {locs : List Loc} {ls : Array Slot} {cells slots pc nL : Nat} {Q : State → Prop} {ad : Nat → Nat} {cd : ByteArray} {L0 : ai_L} {st : List Value}
theorem wp_p {i : Instr} {pc' : Nat} {L' : ai_L} {st' : List Value} (hx : p.tables.exec = Jvm.exec) (hb : c.code = cd) (hdg : decode cd pc = .ok (i, ai_len i)) (hl : ai_H ad ls nL L0)
    (h : ai_p none i pc L0 st (fun pc L st => some ((pc, L, st, 0, 0, fun _ => .inr (0, [])) : ai_C)) = some (pc', L', st', 0, 0, fun _ => .inr (0, [])))
    (kk : ∀ ls' : Array Slot, ai_H ad ls' nL L' → W p l e R s m args below meth c H locs cells slots Q (F0 m pc' ls' (st'.map (ai_cv ad)))) : W p l e R s m args below meth c H locs cells slots Q (F0 m pc ls (st.map (ai_cv ad))) :=
  ai_p_sim hx hb hdg hl (fun pc1 L1 st1 e ls' hl' => by cases e; exact kk ls' hl') h
theorem lPc_blind {M : ai_M} {vs : List Value} {n : Nat} : FrameBlind (ai_Pc (lG L xs) vwCl D (et_tys aC) (et_ad base b w) aC (lEx base b w v L xs) base n M vs) := by
  intro a U g mk q
  obtain ⟨q0, q1, q2, q3, q4⟩ := q
  obtain ⟨hdec, okC, ok4, ok5, htb, hExW, hExC⟩ := lS (base := base) (b := b) (w := w) (v := v) (L := L) (xs := xs)
  exact ⟨q0, va_K.moved (u := U) (U := U.calling g mk a) (Vm.Alike.refl U.vm) q1, hExC U _ rfl rfl q2, q3, q4⟩
theorem lPc_pre {M : ai_M} {vs : List Value} {n : Nat} (hK : va_K D vwCl (et_tys aC) s) (hEx : lEx base b w v L xs s) (hbase : base ≤ s.heap.size) (hP : va_P D vwCl (ai_w (et_ad base b w) aC n M) H) (hS : va_S (fun q => base ≤ q) s.heap H locs) (hn : n ≤ 900000) :
    ∀ U : State, U.heap = H → s.WarmedH U.vm → ai_Pc (lG L xs) vwCl D (et_tys aC) (et_ad base b w) aC (lEx base b w v L xs) base n M vs (vs.map (ai_cv (et_ad base b w))).toArray U := by
  intro U hU hW
  obtain ⟨hdec, okC, ok4, ok5, htb, hExW, hExC⟩ := lS (base := base) (b := b) (w := w) (v := v) (L := L) (xs := xs)
  refine ⟨rfl, va_K.moved hW.alike hK, hExW s U hW (fun q hq => ?_) hEx, ?_, ?_, (fun h => by cases h), hn⟩
  · rw [hU]
    exact hS.2.1 q (Nat.lt_of_lt_of_le hq hbase) (Nat.not_le.mpr hq)
  · rw [hU]; exact Nat.le_trans hbase hS.1
  · rw [hU]; exact hP
theorem l_cw {idx K na mc ms : Nat} (hp : ai_pool ET 13 idx = some (1, K, na, 0)) (hmx : ai_mx ET K ≤ 41) (hts : ∀ w ∈ et_tb, w.before args s = true) (hR1 : d + 9 ≤ R.frames) (hR2 : 60 * (d + 1) + 100 ≤ R.locals) :
    CallW R s args "EarTownLaw" (et_on (ai_own ET K)) idx (et_y K) (et_cc K) (ai_mx ET K) (ai_rt ET K) (Cond.code (et_y K) (et_cc K) (ai_mx ET K) (ai_rt ET K) :: et_tb) (ai_rm2 d mc ms) mc ms na ∧ ∃ (F : u_T) (N : Nat), vwCl[ai_own ET K]? = some (et_on (ai_own ET K), F, N) := by
  obtain ⟨hdec, okC, ok4, ok5, htb, hExW, hExC⟩ := lS (base := 0) (b := 0) (w := 0) (v := 0) (L := 0) (xs := fun _ => 0)
  obtain ⟨⟨y1, y2, y3, y4, y5, y6, y7⟩, z, -⟩ := okC _ _ _ _ _ hp
  obtain ⟨z1, z2, z3, F, N, z4⟩ := z rfl
  refine ⟨⟨⟨rfl, rfl, hR1, ?_, ?_, List.mem_cons_self, hts _ y5, hts _ y6, y3, fun sig hsig => ?_, hts _ z1⟩, hts _ z2, hts _ z3⟩, F, N, z4⟩
  · show 8 + (ai_mx ET K + 11) + (60 * d + 100) ≤ R.locals
    omega
  · refine pay_in hts (fun w hw => ?_)
    rcases List.mem_cons.mp hw with rfl | hw
    · exact ⟨y5, htb _ y5⟩
    · exact ⟨hw, htb _ hw⟩
  · rw [hsig] at y4
    exact (Option.some.inj y4).symm
end
def yWpn : MethodName := { cls := "EarTownLaw", name := "person", desc := "(LEarTown;II[J)I" }
theorem ow_pn : ai_own ET 173 = 11 ∧ ai_mx ET 173 ≤ 41 := by decide +kernel
set_option maxHeartbeats 4000000 in
theorem wr_pn_ret {x y : Int32} {r : Int32} (hM : Met l (et_y 173) (Cond.code (et_y 173) (et_cc 173) (ai_mx ET 173) (ai_rt ET 173) :: et_tb) (ai_rm2 d 0 0) (ai_Pc (lG L xs) vwCl D (et_tys aC) (et_ad base b w) aC (lEx base b w v L xs) base 231 (mem X Y) [.ref 0, .int x, .int y]) (ai_Qc (lG L xs) vwCl D (et_ad base b w) aC base 231 (mem X Y) [.int r]) 0 0 (fun q => base ≤ q)) :
    Met l yWpn (Cond.codeWith yWpn method_3_code 5 (some .int) [((0 : Nat), (10 : Nat), (13 : Nat), (13 : Nat))] :: et_tb) (ai_rm2 (d + 1) 0 0) (ai_Pc (lG L xs) vwCl D (et_tys aC) (et_ad base b w) aC (lEx base b w v L xs) base 231 (mem X Y) [.ref 0, .int x, .int y, .ref 230]) (ai_Qc (lG L xs) vwCl D (et_ad base b w) aC base 231 (mem X (va_up Y 230 (vp_updL (Y 230) 0 r.toInt64))) [.int (Int32.ofInt 0)]) 0 0 (fun q => base ≤ q) := by
  refine va_MetW (cc := method_3_code) (maxL := 5) (ret := some .int) (by decide +kernel) rfl ?_
  intro p e s m args below meth c s₁ B hml hv
  obtain ⟨rfl, hK, hEx, hbase, hP, hg, hn9⟩ := hv
  have hts := atoms_spec (ws := Cond.codeWith yWpn method_3_code 5 (some .int) [((0 : Nat), (10 : Nat), (13 : Nat), (13 : Nat))] :: et_tb) B.pre
  have hts' : ∀ w' ∈ et_tb, w'.before (List.map (ai_cv (et_ad base b w)) [.ref 0, .int x, .int y, .ref 230]).toArray s = true := fun w' hw => hts w' (List.mem_cons_of_mem _ hw)
  have hown : s.vm.findClass "EarTownLaw" = some m.cls := findClass_of_methodNamed B.named
  have hlocks := B.notSynchronized
  have hr0 := B.returns
  have hx := B.exec
  have hb := B.bytes
  have hOK := lOK (l := l) (base := base) (b := b) (w := w) (v := v) (aC := aC) (D := D) (G := lG L xs) (L := L) (xs := xs) rfl
  obtain ⟨okF, okN, ok7, ok8, ok3, okk, ⟨ty0, ty1, ty2, ty3⟩, -, okX, had⟩ := hOK.1
  rw [lg_entry_eq]
  have hl0 := ai_H_entry (ad := et_ad base b w) (vs := [.ref 0, .int x, .int y, .ref 230]) (n := 5) (Nat.le_of_ble_eq_true rfl)
  refine wp_p (st := []) (i := .aload_n 3) hx hb (by decide +kernel) hl0 rfl (fun ls hl => ?_)
  refine wp_p (i := .iconst 0) hx hb (by decide +kernel) hl rfl (fun ls hl => ?_)
  refine wp_p (i := .aload_n 0) hx hb (by decide +kernel) hl rfl (fun ls hl => ?_)
  refine wp_p (i := .iload_n 1) hx hb (by decide +kernel) hl rfl (fun ls hl => ?_)
  refine wp_p (i := .iload_n 2) hx hb (by decide +kernel) hl rfl (fun ls hl => ?_)
  obtain ⟨cw, F, N, z4⟩ := l_cw (d := d) (idx := 7) (K := 173) (na := 2) (mc := 0) (ms := 0) (R := (headSpec (Cond.codeWith yWpn method_3_code 5 (some .int) [((0 : Nat), (10 : Nat), (13 : Nat), (13 : Nat))] :: et_tb) (ai_rm2 (d + 1) 0 0)).room) (by decide +kernel) ow_pn.2 hts' (Nat.le_refl (d + 9)) (Nat.le_refl (60 * (d + 1) + 100))
  have hw0 := ai_w_get (ad := et_ad base b w) (aC := aC) (M := mem X Y) (n := 231) (k := 0) (by omega)
  rw [mm0] at hw0
  rw [ow_pn.1] at z4
  have hrv := va_recv hK hP z4 hw0
  rw [← ow_pn.1] at hrv
  refine ai_after (G := lG L xs) (r := [.int r]) (n' := 231) (M' := mem X Y) (mc := 0) (ms := 0) (pc := 5) (ls := ls) (Nat.le_refl 1) (va_runV (p := p) (l := l) (e := e) (R := (headSpec (Cond.codeWith yWpn method_3_code 5 (some .int) [((0 : Nat), (10 : Nat), (13 : Nat), (13 : Nat))] :: et_tb) (ai_rm2 (d + 1) 0 0)).room) (below := below) (meth := meth) (H := s.heap) (locs := []) (cells := 0) (slots := 0) (C := et_on (ai_own ET 173)) (Ts := et_tb) (own := "EarTownLaw") (cc := method_3_code) (nL := 5) (b := et_ad base b w 0) (As := [.int x, .int y]) (rest := [.int (Int32.ofInt 0), .ref (et_ad base b w 230)]) (g := F0 m 5 ls (List.map (ai_cv (et_ad base b w)) [.int y, .int x, .ref 0, .int (Int32.ofInt 0), .ref 230])) ⟨hx, hb, hml, hown, hts'⟩ hM cw ⟨lPc_blind, hrv, lPc_pre (vs := [.ref 0, .int x, .int y]) hK hEx hbase hP va_S.rf hn9⟩ rfl rfl hl.2.1 rfl (lv_room (Nat.le_of_ble_eq_true rfl)) (show decode method_3_code 5 = .ok (.invokevirtual 7, 3) by decide +kernel) ⟨Nat.le_of_ble_eq_true rfl, Nat.le_of_ble_eq_true rfl⟩) va_S.rf (fun H1 locs1 hP1 hg1 hn1 hS1 => ?_)
  show W p l e _ s m _ below meth c H1 locs1 _ _ _ (F0 m 8 ls (List.map (ai_cv (et_ad base b w)) [.int r, .int (Int32.ofInt 0), .ref 230]))
  refine wp_p (i := .i2l) hx hb (by decide +kernel) hl rfl (fun ls hl => ?_)
  show W p l e _ s m _ below meth c H1 locs1 _ _ _ (F0 m 9 ls (.long r.toInt64 :: .int (Int32.ofInt 0) :: .ref (et_ad base b w 230) :: []))
  have hw := ai_w_get (ad := et_ad base b w) (aC := aC) (M := mem X Y) (n := 231) (k := 230) (by omega)
  rw [mm230] at hw
  refine ai_rlast hx hb hK hP1 (ai_w_D hn1 had) hS1 230 3 hw ty3 (ai_ib_of (n := 1) (by decide)) (by decide +kernel) (fun H2 locs2 z2 hP2 hS2 => ?_)
  have hP3 := ai_P_eq (ai_w_set (ad := et_ad base b w) (aC := aC) (n := 231) (M := mem X Y) (k := 230) (.inl (3, 1, .inr (.inl (vp_updL (Y 230) (Int32.ofInt 0).toNatClampNeg r.toInt64))))) hP2
  rw [mu230] at hP3
  show W p l e _ s m _ below meth c H2 locs2 _ _ _ (F0 m 10 ls (List.map (ai_cv (et_ad base b w)) []))
  refine wp_p (i := .goto 7) hx hb (by decide +kernel) hl rfl (fun ls hl => ?_)
  refine wp_p (i := .iconst 0) hx hb (by decide +kernel) hl rfl (fun ls hl => ?_)
  exact W.iret hx hb hr0 (fun t ht _ => ⟨⟨rfl, by rw [ht]; exact hP3, (fun h => by cases h), hn1⟩, hS2.F ht⟩) hS2.2.2 (by decide +kernel)
set_option maxHeartbeats 4000000 in
theorem wr_pn_thr {x y : Int32} (hM : vx_Met l (et_y 173) (Cond.code (et_y 173) (et_cc 173) (ai_mx ET 173) (ai_rt ET 173) :: et_tb) (ai_rm2 d 1 6) (ai_Pc (lG L xs) vwCl D (et_tys aC) (et_ad base b w) aC (lEx base b w v L xs) base 231 (mem X Y) [.ref 0, .int x, .int y]) (fun _ _ _ _ => False) (nsXC base b w L xs aC D X Y) 1 6 (fun q => base ≤ q)) :
    Met l yWpn (Cond.codeWith yWpn method_3_code 5 (some .int) [((0 : Nat), (10 : Nat), (13 : Nat), (13 : Nat))] :: et_tb) (ai_rm2 (d + 1) 1 6) (ai_Pc (lG L xs) vwCl D (et_tys aC) (et_ad base b w) aC (lEx base b w v L xs) base 231 (mem X Y) [.ref 0, .int x, .int y, .ref 230]) (ai_Qc (lG L xs) vwCl D (et_ad base b w) aC base 231 (mem X Y) [.int (Int32.ofInt 1)]) 1 6 (fun q => base ≤ q) := by
  refine va_MetW (cc := method_3_code) (maxL := 5) (ret := some .int) (by decide +kernel) rfl ?_
  intro p e s m args below meth c s₁ B hml hv
  obtain ⟨rfl, hK, hEx, hbase, hP, hg, hn9⟩ := hv
  have hts := atoms_spec (ws := Cond.codeWith yWpn method_3_code 5 (some .int) [((0 : Nat), (10 : Nat), (13 : Nat), (13 : Nat))] :: et_tb) B.pre
  have hts' : ∀ w' ∈ et_tb, w'.before (List.map (ai_cv (et_ad base b w)) [.ref 0, .int x, .int y, .ref 230]).toArray s = true := fun w' hw => hts w' (List.mem_cons_of_mem _ hw)
  have hown : s.vm.findClass "EarTownLaw" = some m.cls := findClass_of_methodNamed B.named
  have hlocks := B.notSynchronized
  have hr0 := B.returns
  have hx := B.exec
  have hb := B.bytes
  have hOK := lOK (l := l) (base := base) (b := b) (w := w) (v := v) (aC := aC) (D := D) (G := lG L xs) (L := L) (xs := xs) rfl
  obtain ⟨okF, okN, ok7, ok8, ok3, okk, ⟨ty0, ty1, ty2, ty3⟩, -, okX, had⟩ := hOK.1
  rw [lg_entry_eq]
  have hl0 := ai_H_entry (ad := et_ad base b w) (vs := [.ref 0, .int x, .int y, .ref 230]) (n := 5) (Nat.le_of_ble_eq_true rfl)
  have htab : c.exceptionTable.toList = tableOf [((0 : Nat), (10 : Nat), (13 : Nat), (13 : Nat))] := vx_table (x := objectInit) B (hts _ List.mem_cons_self)
  obtain ⟨xe, hxe, hcov, hct, hhp⟩ : ∃ xe, tableOf [((0 : Nat), (10 : Nat), (13 : Nat), (13 : Nat))] = [xe] ∧ covers xe 5 = true ∧ xe.catchType = 13 ∧ xe.handlerPc = 13 := ⟨_, rfl, by decide, rfl, rfl⟩
  rw [hxe] at htab
  have hcast : (Cond.castable nsX nsX).before (List.map (ai_cv (et_ad base b w)) [.ref 0, .int x, .int y, .ref 230]).toArray s = true := va_tabs (u := s) (U := s) (nsB_tab _ (by decide)) rfl (hEx.2.2.2.2.2.2.2.2.2 _ (by decide))
  refine wp_p (st := []) (i := .aload_n 3) hx hb (by decide +kernel) hl0 rfl (fun ls hl => ?_)
  refine wp_p (i := .iconst 0) hx hb (by decide +kernel) hl rfl (fun ls hl => ?_)
  refine wp_p (i := .aload_n 0) hx hb (by decide +kernel) hl rfl (fun ls hl => ?_)
  refine wp_p (i := .iload_n 1) hx hb (by decide +kernel) hl rfl (fun ls hl => ?_)
  refine wp_p (i := .iload_n 2) hx hb (by decide +kernel) hl rfl (fun ls hl => ?_)
  obtain ⟨cw, F, N, z4⟩ := l_cw (d := d) (idx := 7) (K := 173) (na := 2) (mc := 1) (ms := 6) (R := (headSpec (Cond.codeWith yWpn method_3_code 5 (some .int) [((0 : Nat), (10 : Nat), (13 : Nat), (13 : Nat))] :: et_tb) (ai_rm2 (d + 1) 1 6)).room) (by decide +kernel) ow_pn.2 hts' (Nat.le_refl (d + 9)) (Nat.le_refl (60 * (d + 1) + 100))
  have hw0 := ai_w_get (ad := et_ad base b w) (aC := aC) (M := mem X Y) (n := 231) (k := 0) (by omega)
  rw [mm0] at hw0
  rw [ow_pn.1] at z4
  have hrv := va_recv hK hP z4 hw0
  rw [← ow_pn.1] at hrv
  have hr := vx_runV (p := p) (l := l) (e := e) (R := (headSpec (Cond.codeWith yWpn method_3_code 5 (some .int) [((0 : Nat), (10 : Nat), (13 : Nat), (13 : Nat))] :: et_tb) (ai_rm2 (d + 1) 1 6)).room) (below := below) (meth := meth) (H := s.heap) (locs := []) (cells := 0) (slots := 0) (C := et_on (ai_own ET 173)) (Ts := et_tb) (own := "EarTownLaw") (cc := method_3_code) (nL := 5) (b := et_ad base b w 0) (As := [.int x, .int y]) (rest := [.int (Int32.ofInt 0), .ref (et_ad base b w 230)]) (g := F0 m 5 ls (List.map (ai_cv (et_ad base b w)) [.int y, .int x, .ref 0, .int (Int32.ofInt 0), .ref 230])) ⟨hx, hb, hml, hown, hts'⟩ hM cw ⟨lPc_blind, hrv, lPc_pre (vs := [.ref 0, .int x, .int y]) hK hEx hbase hP va_S.rf hn9⟩ rfl rfl hl.2.1 rfl (lv_room (Nat.le_of_ble_eq_true rfl)) (show decode method_3_code 5 = .ok (.invokevirtual 7, 3) by decide +kernel) ⟨Nat.le_of_ble_eq_true rfl, Nat.le_of_ble_eq_true rfl⟩
  intro T0 hT0 X0
  rcases hr T0 hT0 X0 with ⟨_, _, _, _, _, _, _, _, _, _, hf, _⟩ | ⟨q, st₀, t, T', L9, E9, ce, h0, X', hL, e1, e2, ⟨hE, hF, hB1, hB2, hB3⟩, hce, hcv, hcl, st9⟩
  · exact hf.elim
  · subst hE
    obtain ⟨-, -, hS1⟩ := vx_keep h0 e1 (va_S.rf (A := fun q => base ≤ q)) (fun q _ h => h) (fun q h => h) hL hF
    have hP1 : va_P D vwCl (ai_w (et_ad base b w) aC 231 (mem X Y)) T'.heap := by rw [e1]; exact hB1
    have hcell : T'.heap[q]? = some ce := by rw [e1]; exact hce
    have hw9 : vx_W p l e (headSpec (Cond.codeWith yWpn method_3_code 5 (some .int) [((0 : Nat), (10 : Nat), (13 : Nat), (13 : Nat))] :: et_tb) (ai_rm2 (d + 1) 1 6)).room s m (List.map (ai_cv (et_ad base b w)) [.ref 0, .int x, .int y, .ref 230]).toArray below meth c T'.heap ([] ++ L9) (0 + 1) (0 + 6) (MQ below (ai_Qc (lG L xs) vwCl D (et_ad base b w) aC base 231 (mem X Y) [.int (Int32.ofInt 1)]) (List.map (ai_cv (et_ad base b w)) [.ref 0, .int x, .int y, .ref 230]).toArray s 1 6 (fun q => base ≤ q)) (F0 m 5 ls [.int (Int32.ofInt 0), .ref (et_ad base b w 230)]) q := by
      refine vx_catch (name := nsX) hown [] xe [] htab (fun z hz => nomatch hz) hcov (by rw [hct]; decide) (by rw [hct]; exact hts' _ ns_c2) hcast hcell hcv hcl ?_
      rw [hhp]
      refine lv_astore hx hb (by decide +kernel) hl.has (by decide : 4 < 5) rfl (fun ls' _ => ?_)
      refine lv_iconst (n := 1) hx hb (by decide +kernel) rfl ?_
      exact W.iret hx hb hr0 (fun t ht _ => ⟨⟨rfl, by rw [ht]; exact hP1, (fun h => by cases h), hB3⟩, hS1.F ht⟩) hS1.2.2 (by decide +kernel)
    obtain ⟨t2, a1, b1⟩ := hw9 T' rfl X'
    exact ⟨t2, st9.trans a1, b1⟩
def yWst : MethodName := { cls := "EarTownLaw", name := "story", desc := "(LEarTown;II[J)I" }
theorem ow_st : ai_own ET 174 = 11 ∧ ai_mx ET 174 ≤ 41 := by decide +kernel
set_option maxHeartbeats 4000000 in
theorem wr_st_ret {x y : Int32} {r : Int32} (hM : Met l (et_y 174) (Cond.code (et_y 174) (et_cc 174) (ai_mx ET 174) (ai_rt ET 174) :: et_tb) (ai_rm2 d 0 0) (ai_Pc (lG L xs) vwCl D (et_tys aC) (et_ad base b w) aC (lEx base b w v L xs) base 231 (mem X Y) [.ref 0, .int x, .int y]) (ai_Qc (lG L xs) vwCl D (et_ad base b w) aC base 231 (mem X Y) [.int r]) 0 0 (fun q => base ≤ q)) :
    Met l yWst (Cond.codeWith yWst method_4_code 5 (some .int) [((0 : Nat), (10 : Nat), (13 : Nat), (13 : Nat))] :: et_tb) (ai_rm2 (d + 1) 0 0) (ai_Pc (lG L xs) vwCl D (et_tys aC) (et_ad base b w) aC (lEx base b w v L xs) base 231 (mem X Y) [.ref 0, .int x, .int y, .ref 230]) (ai_Qc (lG L xs) vwCl D (et_ad base b w) aC base 231 (mem X (va_up Y 230 (vp_updL (Y 230) 0 r.toInt64))) [.int (Int32.ofInt 0)]) 0 0 (fun q => base ≤ q) := by
  refine va_MetW (cc := method_4_code) (maxL := 5) (ret := some .int) (by decide +kernel) rfl ?_
  intro p e s m args below meth c s₁ B hml hv
  obtain ⟨rfl, hK, hEx, hbase, hP, hg, hn9⟩ := hv
  have hts := atoms_spec (ws := Cond.codeWith yWst method_4_code 5 (some .int) [((0 : Nat), (10 : Nat), (13 : Nat), (13 : Nat))] :: et_tb) B.pre
  have hts' : ∀ w' ∈ et_tb, w'.before (List.map (ai_cv (et_ad base b w)) [.ref 0, .int x, .int y, .ref 230]).toArray s = true := fun w' hw => hts w' (List.mem_cons_of_mem _ hw)
  have hown : s.vm.findClass "EarTownLaw" = some m.cls := findClass_of_methodNamed B.named
  have hlocks := B.notSynchronized
  have hr0 := B.returns
  have hx := B.exec
  have hb := B.bytes
  have hOK := lOK (l := l) (base := base) (b := b) (w := w) (v := v) (aC := aC) (D := D) (G := lG L xs) (L := L) (xs := xs) rfl
  obtain ⟨okF, okN, ok7, ok8, ok3, okk, ⟨ty0, ty1, ty2, ty3⟩, -, okX, had⟩ := hOK.1
  rw [lg_entry_eq]
  have hl0 := ai_H_entry (ad := et_ad base b w) (vs := [.ref 0, .int x, .int y, .ref 230]) (n := 5) (Nat.le_of_ble_eq_true rfl)
  refine wp_p (st := []) (i := .aload_n 3) hx hb (by decide +kernel) hl0 rfl (fun ls hl => ?_)
  refine wp_p (i := .iconst 0) hx hb (by decide +kernel) hl rfl (fun ls hl => ?_)
  refine wp_p (i := .aload_n 0) hx hb (by decide +kernel) hl rfl (fun ls hl => ?_)
  refine wp_p (i := .iload_n 1) hx hb (by decide +kernel) hl rfl (fun ls hl => ?_)
  refine wp_p (i := .iload_n 2) hx hb (by decide +kernel) hl rfl (fun ls hl => ?_)
  obtain ⟨cw, F, N, z4⟩ := l_cw (d := d) (idx := 15) (K := 174) (na := 2) (mc := 0) (ms := 0) (R := (headSpec (Cond.codeWith yWst method_4_code 5 (some .int) [((0 : Nat), (10 : Nat), (13 : Nat), (13 : Nat))] :: et_tb) (ai_rm2 (d + 1) 0 0)).room) (by decide +kernel) ow_st.2 hts' (Nat.le_refl (d + 9)) (Nat.le_refl (60 * (d + 1) + 100))
  have hw0 := ai_w_get (ad := et_ad base b w) (aC := aC) (M := mem X Y) (n := 231) (k := 0) (by omega)
  rw [mm0] at hw0
  rw [ow_st.1] at z4
  have hrv := va_recv hK hP z4 hw0
  rw [← ow_st.1] at hrv
  refine ai_after (G := lG L xs) (r := [.int r]) (n' := 231) (M' := mem X Y) (mc := 0) (ms := 0) (pc := 5) (ls := ls) (Nat.le_refl 1) (va_runV (p := p) (l := l) (e := e) (R := (headSpec (Cond.codeWith yWst method_4_code 5 (some .int) [((0 : Nat), (10 : Nat), (13 : Nat), (13 : Nat))] :: et_tb) (ai_rm2 (d + 1) 0 0)).room) (below := below) (meth := meth) (H := s.heap) (locs := []) (cells := 0) (slots := 0) (C := et_on (ai_own ET 174)) (Ts := et_tb) (own := "EarTownLaw") (cc := method_4_code) (nL := 5) (b := et_ad base b w 0) (As := [.int x, .int y]) (rest := [.int (Int32.ofInt 0), .ref (et_ad base b w 230)]) (g := F0 m 5 ls (List.map (ai_cv (et_ad base b w)) [.int y, .int x, .ref 0, .int (Int32.ofInt 0), .ref 230])) ⟨hx, hb, hml, hown, hts'⟩ hM cw ⟨lPc_blind, hrv, lPc_pre (vs := [.ref 0, .int x, .int y]) hK hEx hbase hP va_S.rf hn9⟩ rfl rfl hl.2.1 rfl (lv_room (Nat.le_of_ble_eq_true rfl)) (show decode method_4_code 5 = .ok (.invokevirtual 15, 3) by decide +kernel) ⟨Nat.le_of_ble_eq_true rfl, Nat.le_of_ble_eq_true rfl⟩) va_S.rf (fun H1 locs1 hP1 hg1 hn1 hS1 => ?_)
  show W p l e _ s m _ below meth c H1 locs1 _ _ _ (F0 m 8 ls (List.map (ai_cv (et_ad base b w)) [.int r, .int (Int32.ofInt 0), .ref 230]))
  refine wp_p (i := .i2l) hx hb (by decide +kernel) hl rfl (fun ls hl => ?_)
  show W p l e _ s m _ below meth c H1 locs1 _ _ _ (F0 m 9 ls (.long r.toInt64 :: .int (Int32.ofInt 0) :: .ref (et_ad base b w 230) :: []))
  have hw := ai_w_get (ad := et_ad base b w) (aC := aC) (M := mem X Y) (n := 231) (k := 230) (by omega)
  rw [mm230] at hw
  refine ai_rlast hx hb hK hP1 (ai_w_D hn1 had) hS1 230 3 hw ty3 (ai_ib_of (n := 1) (by decide)) (by decide +kernel) (fun H2 locs2 z2 hP2 hS2 => ?_)
  have hP3 := ai_P_eq (ai_w_set (ad := et_ad base b w) (aC := aC) (n := 231) (M := mem X Y) (k := 230) (.inl (3, 1, .inr (.inl (vp_updL (Y 230) (Int32.ofInt 0).toNatClampNeg r.toInt64))))) hP2
  rw [mu230] at hP3
  show W p l e _ s m _ below meth c H2 locs2 _ _ _ (F0 m 10 ls (List.map (ai_cv (et_ad base b w)) []))
  refine wp_p (i := .goto 7) hx hb (by decide +kernel) hl rfl (fun ls hl => ?_)
  refine wp_p (i := .iconst 0) hx hb (by decide +kernel) hl rfl (fun ls hl => ?_)
  exact W.iret hx hb hr0 (fun t ht _ => ⟨⟨rfl, by rw [ht]; exact hP3, (fun h => by cases h), hn1⟩, hS2.F ht⟩) hS2.2.2 (by decide +kernel)
set_option maxHeartbeats 4000000 in
theorem wr_st_thr {x y : Int32} (hM : vx_Met l (et_y 174) (Cond.code (et_y 174) (et_cc 174) (ai_mx ET 174) (ai_rt ET 174) :: et_tb) (ai_rm2 d 1 6) (ai_Pc (lG L xs) vwCl D (et_tys aC) (et_ad base b w) aC (lEx base b w v L xs) base 231 (mem X Y) [.ref 0, .int x, .int y]) (fun _ _ _ _ => False) (nsXC base b w L xs aC D X Y) 1 6 (fun q => base ≤ q)) :
    Met l yWst (Cond.codeWith yWst method_4_code 5 (some .int) [((0 : Nat), (10 : Nat), (13 : Nat), (13 : Nat))] :: et_tb) (ai_rm2 (d + 1) 1 6) (ai_Pc (lG L xs) vwCl D (et_tys aC) (et_ad base b w) aC (lEx base b w v L xs) base 231 (mem X Y) [.ref 0, .int x, .int y, .ref 230]) (ai_Qc (lG L xs) vwCl D (et_ad base b w) aC base 231 (mem X Y) [.int (Int32.ofInt 1)]) 1 6 (fun q => base ≤ q) := by
  refine va_MetW (cc := method_4_code) (maxL := 5) (ret := some .int) (by decide +kernel) rfl ?_
  intro p e s m args below meth c s₁ B hml hv
  obtain ⟨rfl, hK, hEx, hbase, hP, hg, hn9⟩ := hv
  have hts := atoms_spec (ws := Cond.codeWith yWst method_4_code 5 (some .int) [((0 : Nat), (10 : Nat), (13 : Nat), (13 : Nat))] :: et_tb) B.pre
  have hts' : ∀ w' ∈ et_tb, w'.before (List.map (ai_cv (et_ad base b w)) [.ref 0, .int x, .int y, .ref 230]).toArray s = true := fun w' hw => hts w' (List.mem_cons_of_mem _ hw)
  have hown : s.vm.findClass "EarTownLaw" = some m.cls := findClass_of_methodNamed B.named
  have hlocks := B.notSynchronized
  have hr0 := B.returns
  have hx := B.exec
  have hb := B.bytes
  have hOK := lOK (l := l) (base := base) (b := b) (w := w) (v := v) (aC := aC) (D := D) (G := lG L xs) (L := L) (xs := xs) rfl
  obtain ⟨okF, okN, ok7, ok8, ok3, okk, ⟨ty0, ty1, ty2, ty3⟩, -, okX, had⟩ := hOK.1
  rw [lg_entry_eq]
  have hl0 := ai_H_entry (ad := et_ad base b w) (vs := [.ref 0, .int x, .int y, .ref 230]) (n := 5) (Nat.le_of_ble_eq_true rfl)
  have htab : c.exceptionTable.toList = tableOf [((0 : Nat), (10 : Nat), (13 : Nat), (13 : Nat))] := vx_table (x := objectInit) B (hts _ List.mem_cons_self)
  obtain ⟨xe, hxe, hcov, hct, hhp⟩ : ∃ xe, tableOf [((0 : Nat), (10 : Nat), (13 : Nat), (13 : Nat))] = [xe] ∧ covers xe 5 = true ∧ xe.catchType = 13 ∧ xe.handlerPc = 13 := ⟨_, rfl, by decide, rfl, rfl⟩
  rw [hxe] at htab
  have hcast : (Cond.castable nsX nsX).before (List.map (ai_cv (et_ad base b w)) [.ref 0, .int x, .int y, .ref 230]).toArray s = true := va_tabs (u := s) (U := s) (nsB_tab _ (by decide)) rfl (hEx.2.2.2.2.2.2.2.2.2 _ (by decide))
  refine wp_p (st := []) (i := .aload_n 3) hx hb (by decide +kernel) hl0 rfl (fun ls hl => ?_)
  refine wp_p (i := .iconst 0) hx hb (by decide +kernel) hl rfl (fun ls hl => ?_)
  refine wp_p (i := .aload_n 0) hx hb (by decide +kernel) hl rfl (fun ls hl => ?_)
  refine wp_p (i := .iload_n 1) hx hb (by decide +kernel) hl rfl (fun ls hl => ?_)
  refine wp_p (i := .iload_n 2) hx hb (by decide +kernel) hl rfl (fun ls hl => ?_)
  obtain ⟨cw, F, N, z4⟩ := l_cw (d := d) (idx := 15) (K := 174) (na := 2) (mc := 1) (ms := 6) (R := (headSpec (Cond.codeWith yWst method_4_code 5 (some .int) [((0 : Nat), (10 : Nat), (13 : Nat), (13 : Nat))] :: et_tb) (ai_rm2 (d + 1) 1 6)).room) (by decide +kernel) ow_st.2 hts' (Nat.le_refl (d + 9)) (Nat.le_refl (60 * (d + 1) + 100))
  have hw0 := ai_w_get (ad := et_ad base b w) (aC := aC) (M := mem X Y) (n := 231) (k := 0) (by omega)
  rw [mm0] at hw0
  rw [ow_st.1] at z4
  have hrv := va_recv hK hP z4 hw0
  rw [← ow_st.1] at hrv
  have hr := vx_runV (p := p) (l := l) (e := e) (R := (headSpec (Cond.codeWith yWst method_4_code 5 (some .int) [((0 : Nat), (10 : Nat), (13 : Nat), (13 : Nat))] :: et_tb) (ai_rm2 (d + 1) 1 6)).room) (below := below) (meth := meth) (H := s.heap) (locs := []) (cells := 0) (slots := 0) (C := et_on (ai_own ET 174)) (Ts := et_tb) (own := "EarTownLaw") (cc := method_4_code) (nL := 5) (b := et_ad base b w 0) (As := [.int x, .int y]) (rest := [.int (Int32.ofInt 0), .ref (et_ad base b w 230)]) (g := F0 m 5 ls (List.map (ai_cv (et_ad base b w)) [.int y, .int x, .ref 0, .int (Int32.ofInt 0), .ref 230])) ⟨hx, hb, hml, hown, hts'⟩ hM cw ⟨lPc_blind, hrv, lPc_pre (vs := [.ref 0, .int x, .int y]) hK hEx hbase hP va_S.rf hn9⟩ rfl rfl hl.2.1 rfl (lv_room (Nat.le_of_ble_eq_true rfl)) (show decode method_4_code 5 = .ok (.invokevirtual 15, 3) by decide +kernel) ⟨Nat.le_of_ble_eq_true rfl, Nat.le_of_ble_eq_true rfl⟩
  intro T0 hT0 X0
  rcases hr T0 hT0 X0 with ⟨_, _, _, _, _, _, _, _, _, _, hf, _⟩ | ⟨q, st₀, t, T', L9, E9, ce, h0, X', hL, e1, e2, ⟨hE, hF, hB1, hB2, hB3⟩, hce, hcv, hcl, st9⟩
  · exact hf.elim
  · subst hE
    obtain ⟨-, -, hS1⟩ := vx_keep h0 e1 (va_S.rf (A := fun q => base ≤ q)) (fun q _ h => h) (fun q h => h) hL hF
    have hP1 : va_P D vwCl (ai_w (et_ad base b w) aC 231 (mem X Y)) T'.heap := by rw [e1]; exact hB1
    have hcell : T'.heap[q]? = some ce := by rw [e1]; exact hce
    have hw9 : vx_W p l e (headSpec (Cond.codeWith yWst method_4_code 5 (some .int) [((0 : Nat), (10 : Nat), (13 : Nat), (13 : Nat))] :: et_tb) (ai_rm2 (d + 1) 1 6)).room s m (List.map (ai_cv (et_ad base b w)) [.ref 0, .int x, .int y, .ref 230]).toArray below meth c T'.heap ([] ++ L9) (0 + 1) (0 + 6) (MQ below (ai_Qc (lG L xs) vwCl D (et_ad base b w) aC base 231 (mem X Y) [.int (Int32.ofInt 1)]) (List.map (ai_cv (et_ad base b w)) [.ref 0, .int x, .int y, .ref 230]).toArray s 1 6 (fun q => base ≤ q)) (F0 m 5 ls [.int (Int32.ofInt 0), .ref (et_ad base b w 230)]) q := by
      refine vx_catch (name := nsX) hown [] xe [] htab (fun z hz => nomatch hz) hcov (by rw [hct]; decide) (by rw [hct]; exact hts' _ ns_c2) hcast hcell hcv hcl ?_
      rw [hhp]
      refine lv_astore hx hb (by decide +kernel) hl.has (by decide : 4 < 5) rfl (fun ls' _ => ?_)
      refine lv_iconst (n := 1) hx hb (by decide +kernel) rfl ?_
      exact W.iret hx hb hr0 (fun t ht _ => ⟨⟨rfl, by rw [ht]; exact hP1, (fun h => by cases h), hB3⟩, hS1.F ht⟩) hS1.2.2 (by decide +kernel)
    obtain ⟨t2, a1, b1⟩ := hw9 T' rfl X'
    exact ⟨t2, st9.trans a1, b1⟩
def yWgf : MethodName := { cls := "EarTownLaw", name := "griefs", desc := "(LEarTown;IIIII[J)I" }
theorem ow_gf : ai_own ET 175 = 11 ∧ ai_mx ET 175 ≤ 41 := by decide +kernel
set_option maxHeartbeats 4000000 in
theorem wr_gf_ret {x y z u o : Int32} {r : Int64} (hM : Met l (et_y 175) (Cond.code (et_y 175) (et_cc 175) (ai_mx ET 175) (ai_rt ET 175) :: et_tb) (ai_rm2 d 0 0) (ai_Pc (lG L xs) vwCl D (et_tys aC) (et_ad base b w) aC (lEx base b w v L xs) base 231 (mem X Y) [.ref 0, .int x, .int y, .int z, .int u, .int o]) (ai_Qc (lG L xs) vwCl D (et_ad base b w) aC base 231 (mem X Y) [.long r]) 0 0 (fun q => base ≤ q)) :
    Met l yWgf (Cond.codeWith yWgf method_5_code 8 (some .int) [((0 : Nat), (15 : Nat), (18 : Nat), (13 : Nat))] :: et_tb) (ai_rm2 (d + 1) 0 0) (ai_Pc (lG L xs) vwCl D (et_tys aC) (et_ad base b w) aC (lEx base b w v L xs) base 231 (mem X Y) [.ref 0, .int x, .int y, .int z, .int u, .int o, .ref 230]) (ai_Qc (lG L xs) vwCl D (et_ad base b w) aC base 231 (mem X (va_up Y 230 (vp_updL (Y 230) 0 r))) [.int (Int32.ofInt 0)]) 0 0 (fun q => base ≤ q) := by
  refine va_MetW (cc := method_5_code) (maxL := 8) (ret := some .int) (by decide +kernel) rfl ?_
  intro p e s m args below meth c s₁ B hml hv
  obtain ⟨rfl, hK, hEx, hbase, hP, hg, hn9⟩ := hv
  have hts := atoms_spec (ws := Cond.codeWith yWgf method_5_code 8 (some .int) [((0 : Nat), (15 : Nat), (18 : Nat), (13 : Nat))] :: et_tb) B.pre
  have hts' : ∀ w' ∈ et_tb, w'.before (List.map (ai_cv (et_ad base b w)) [.ref 0, .int x, .int y, .int z, .int u, .int o, .ref 230]).toArray s = true := fun w' hw => hts w' (List.mem_cons_of_mem _ hw)
  have hown : s.vm.findClass "EarTownLaw" = some m.cls := findClass_of_methodNamed B.named
  have hlocks := B.notSynchronized
  have hr0 := B.returns
  have hx := B.exec
  have hb := B.bytes
  have hOK := lOK (l := l) (base := base) (b := b) (w := w) (v := v) (aC := aC) (D := D) (G := lG L xs) (L := L) (xs := xs) rfl
  obtain ⟨okF, okN, ok7, ok8, ok3, okk, ⟨ty0, ty1, ty2, ty3⟩, -, okX, had⟩ := hOK.1
  rw [lg_entry_eq]
  have hl0 := ai_H_entry (ad := et_ad base b w) (vs := [.ref 0, .int x, .int y, .int z, .int u, .int o, .ref 230]) (n := 8) (Nat.le_of_ble_eq_true rfl)
  refine wp_p (st := []) (i := .aload 6) hx hb (by decide +kernel) hl0 rfl (fun ls hl => ?_)
  refine wp_p (i := .iconst 0) hx hb (by decide +kernel) hl rfl (fun ls hl => ?_)
  refine wp_p (i := .aload_n 0) hx hb (by decide +kernel) hl rfl (fun ls hl => ?_)
  refine wp_p (i := .iload_n 1) hx hb (by decide +kernel) hl rfl (fun ls hl => ?_)
  refine wp_p (i := .iload_n 2) hx hb (by decide +kernel) hl rfl (fun ls hl => ?_)
  refine wp_p (i := .iload_n 3) hx hb (by decide +kernel) hl rfl (fun ls hl => ?_)
  refine wp_p (i := .iload 4) hx hb (by decide +kernel) hl rfl (fun ls hl => ?_)
  refine wp_p (i := .iload 5) hx hb (by decide +kernel) hl rfl (fun ls hl => ?_)
  obtain ⟨cw, F, N, z4⟩ := l_cw (d := d) (idx := 18) (K := 175) (na := 5) (mc := 0) (ms := 0) (R := (headSpec (Cond.codeWith yWgf method_5_code 8 (some .int) [((0 : Nat), (15 : Nat), (18 : Nat), (13 : Nat))] :: et_tb) (ai_rm2 (d + 1) 0 0)).room) (by decide +kernel) ow_gf.2 hts' (Nat.le_refl (d + 9)) (Nat.le_refl (60 * (d + 1) + 100))
  have hw0 := ai_w_get (ad := et_ad base b w) (aC := aC) (M := mem X Y) (n := 231) (k := 0) (by omega)
  rw [mm0] at hw0
  rw [ow_gf.1] at z4
  have hrv := va_recv hK hP z4 hw0
  rw [← ow_gf.1] at hrv
  refine ai_after (G := lG L xs) (r := [.long r]) (n' := 231) (M' := mem X Y) (mc := 0) (ms := 0) (pc := 11) (ls := ls) (Nat.le_refl 1) (va_runV (p := p) (l := l) (e := e) (R := (headSpec (Cond.codeWith yWgf method_5_code 8 (some .int) [((0 : Nat), (15 : Nat), (18 : Nat), (13 : Nat))] :: et_tb) (ai_rm2 (d + 1) 0 0)).room) (below := below) (meth := meth) (H := s.heap) (locs := []) (cells := 0) (slots := 0) (C := et_on (ai_own ET 175)) (Ts := et_tb) (own := "EarTownLaw") (cc := method_5_code) (nL := 8) (b := et_ad base b w 0) (As := [.int x, .int y, .int z, .int u, .int o]) (rest := [.int (Int32.ofInt 0), .ref (et_ad base b w 230)]) (g := F0 m 11 ls (List.map (ai_cv (et_ad base b w)) [.int o, .int u, .int z, .int y, .int x, .ref 0, .int (Int32.ofInt 0), .ref 230])) ⟨hx, hb, hml, hown, hts'⟩ hM cw ⟨lPc_blind, hrv, lPc_pre (vs := [.ref 0, .int x, .int y, .int z, .int u, .int o]) hK hEx hbase hP va_S.rf hn9⟩ rfl rfl hl.2.1 rfl (lv_room (Nat.le_of_ble_eq_true rfl)) (show decode method_5_code 11 = .ok (.invokevirtual 18, 3) by decide +kernel) ⟨Nat.le_of_ble_eq_true rfl, Nat.le_of_ble_eq_true rfl⟩) va_S.rf (fun H1 locs1 hP1 hg1 hn1 hS1 => ?_)
  show W p l e _ s m _ below meth c H1 locs1 _ _ _ (F0 m 14 ls (.long r :: .int (Int32.ofInt 0) :: .ref (et_ad base b w 230) :: []))
  have hw := ai_w_get (ad := et_ad base b w) (aC := aC) (M := mem X Y) (n := 231) (k := 230) (by omega)
  rw [mm230] at hw
  refine ai_rlast hx hb hK hP1 (ai_w_D hn1 had) hS1 230 3 hw ty3 (ai_ib_of (n := 1) (by decide)) (by decide +kernel) (fun H2 locs2 z2 hP2 hS2 => ?_)
  have hP3 := ai_P_eq (ai_w_set (ad := et_ad base b w) (aC := aC) (n := 231) (M := mem X Y) (k := 230) (.inl (3, 1, .inr (.inl (vp_updL (Y 230) (Int32.ofInt 0).toNatClampNeg r))))) hP2
  rw [mu230] at hP3
  show W p l e _ s m _ below meth c H2 locs2 _ _ _ (F0 m 15 ls (List.map (ai_cv (et_ad base b w)) []))
  refine wp_p (i := .goto 7) hx hb (by decide +kernel) hl rfl (fun ls hl => ?_)
  refine wp_p (i := .iconst 0) hx hb (by decide +kernel) hl rfl (fun ls hl => ?_)
  exact W.iret hx hb hr0 (fun t ht _ => ⟨⟨rfl, by rw [ht]; exact hP3, (fun h => by cases h), hn1⟩, hS2.F ht⟩) hS2.2.2 (by decide +kernel)
set_option maxHeartbeats 4000000 in
theorem wr_gf_thr {x y z u o : Int32} (hM : vx_Met l (et_y 175) (Cond.code (et_y 175) (et_cc 175) (ai_mx ET 175) (ai_rt ET 175) :: et_tb) (ai_rm2 d 1 6) (ai_Pc (lG L xs) vwCl D (et_tys aC) (et_ad base b w) aC (lEx base b w v L xs) base 231 (mem X Y) [.ref 0, .int x, .int y, .int z, .int u, .int o]) (fun _ _ _ _ => False) (nsXC base b w L xs aC D X Y) 1 6 (fun q => base ≤ q)) :
    Met l yWgf (Cond.codeWith yWgf method_5_code 8 (some .int) [((0 : Nat), (15 : Nat), (18 : Nat), (13 : Nat))] :: et_tb) (ai_rm2 (d + 1) 1 6) (ai_Pc (lG L xs) vwCl D (et_tys aC) (et_ad base b w) aC (lEx base b w v L xs) base 231 (mem X Y) [.ref 0, .int x, .int y, .int z, .int u, .int o, .ref 230]) (ai_Qc (lG L xs) vwCl D (et_ad base b w) aC base 231 (mem X Y) [.int (Int32.ofInt 1)]) 1 6 (fun q => base ≤ q) := by
  refine va_MetW (cc := method_5_code) (maxL := 8) (ret := some .int) (by decide +kernel) rfl ?_
  intro p e s m args below meth c s₁ B hml hv
  obtain ⟨rfl, hK, hEx, hbase, hP, hg, hn9⟩ := hv
  have hts := atoms_spec (ws := Cond.codeWith yWgf method_5_code 8 (some .int) [((0 : Nat), (15 : Nat), (18 : Nat), (13 : Nat))] :: et_tb) B.pre
  have hts' : ∀ w' ∈ et_tb, w'.before (List.map (ai_cv (et_ad base b w)) [.ref 0, .int x, .int y, .int z, .int u, .int o, .ref 230]).toArray s = true := fun w' hw => hts w' (List.mem_cons_of_mem _ hw)
  have hown : s.vm.findClass "EarTownLaw" = some m.cls := findClass_of_methodNamed B.named
  have hlocks := B.notSynchronized
  have hr0 := B.returns
  have hx := B.exec
  have hb := B.bytes
  have hOK := lOK (l := l) (base := base) (b := b) (w := w) (v := v) (aC := aC) (D := D) (G := lG L xs) (L := L) (xs := xs) rfl
  obtain ⟨okF, okN, ok7, ok8, ok3, okk, ⟨ty0, ty1, ty2, ty3⟩, -, okX, had⟩ := hOK.1
  rw [lg_entry_eq]
  have hl0 := ai_H_entry (ad := et_ad base b w) (vs := [.ref 0, .int x, .int y, .int z, .int u, .int o, .ref 230]) (n := 8) (Nat.le_of_ble_eq_true rfl)
  have htab : c.exceptionTable.toList = tableOf [((0 : Nat), (15 : Nat), (18 : Nat), (13 : Nat))] := vx_table (x := objectInit) B (hts _ List.mem_cons_self)
  obtain ⟨xe, hxe, hcov, hct, hhp⟩ : ∃ xe, tableOf [((0 : Nat), (15 : Nat), (18 : Nat), (13 : Nat))] = [xe] ∧ covers xe 11 = true ∧ xe.catchType = 13 ∧ xe.handlerPc = 18 := ⟨_, rfl, by decide, rfl, rfl⟩
  rw [hxe] at htab
  have hcast : (Cond.castable nsX nsX).before (List.map (ai_cv (et_ad base b w)) [.ref 0, .int x, .int y, .int z, .int u, .int o, .ref 230]).toArray s = true := va_tabs (u := s) (U := s) (nsB_tab _ (by decide)) rfl (hEx.2.2.2.2.2.2.2.2.2 _ (by decide))
  refine wp_p (st := []) (i := .aload 6) hx hb (by decide +kernel) hl0 rfl (fun ls hl => ?_)
  refine wp_p (i := .iconst 0) hx hb (by decide +kernel) hl rfl (fun ls hl => ?_)
  refine wp_p (i := .aload_n 0) hx hb (by decide +kernel) hl rfl (fun ls hl => ?_)
  refine wp_p (i := .iload_n 1) hx hb (by decide +kernel) hl rfl (fun ls hl => ?_)
  refine wp_p (i := .iload_n 2) hx hb (by decide +kernel) hl rfl (fun ls hl => ?_)
  refine wp_p (i := .iload_n 3) hx hb (by decide +kernel) hl rfl (fun ls hl => ?_)
  refine wp_p (i := .iload 4) hx hb (by decide +kernel) hl rfl (fun ls hl => ?_)
  refine wp_p (i := .iload 5) hx hb (by decide +kernel) hl rfl (fun ls hl => ?_)
  obtain ⟨cw, F, N, z4⟩ := l_cw (d := d) (idx := 18) (K := 175) (na := 5) (mc := 1) (ms := 6) (R := (headSpec (Cond.codeWith yWgf method_5_code 8 (some .int) [((0 : Nat), (15 : Nat), (18 : Nat), (13 : Nat))] :: et_tb) (ai_rm2 (d + 1) 1 6)).room) (by decide +kernel) ow_gf.2 hts' (Nat.le_refl (d + 9)) (Nat.le_refl (60 * (d + 1) + 100))
  have hw0 := ai_w_get (ad := et_ad base b w) (aC := aC) (M := mem X Y) (n := 231) (k := 0) (by omega)
  rw [mm0] at hw0
  rw [ow_gf.1] at z4
  have hrv := va_recv hK hP z4 hw0
  rw [← ow_gf.1] at hrv
  have hr := vx_runV (p := p) (l := l) (e := e) (R := (headSpec (Cond.codeWith yWgf method_5_code 8 (some .int) [((0 : Nat), (15 : Nat), (18 : Nat), (13 : Nat))] :: et_tb) (ai_rm2 (d + 1) 1 6)).room) (below := below) (meth := meth) (H := s.heap) (locs := []) (cells := 0) (slots := 0) (C := et_on (ai_own ET 175)) (Ts := et_tb) (own := "EarTownLaw") (cc := method_5_code) (nL := 8) (b := et_ad base b w 0) (As := [.int x, .int y, .int z, .int u, .int o]) (rest := [.int (Int32.ofInt 0), .ref (et_ad base b w 230)]) (g := F0 m 11 ls (List.map (ai_cv (et_ad base b w)) [.int o, .int u, .int z, .int y, .int x, .ref 0, .int (Int32.ofInt 0), .ref 230])) ⟨hx, hb, hml, hown, hts'⟩ hM cw ⟨lPc_blind, hrv, lPc_pre (vs := [.ref 0, .int x, .int y, .int z, .int u, .int o]) hK hEx hbase hP va_S.rf hn9⟩ rfl rfl hl.2.1 rfl (lv_room (Nat.le_of_ble_eq_true rfl)) (show decode method_5_code 11 = .ok (.invokevirtual 18, 3) by decide +kernel) ⟨Nat.le_of_ble_eq_true rfl, Nat.le_of_ble_eq_true rfl⟩
  intro T0 hT0 X0
  rcases hr T0 hT0 X0 with ⟨_, _, _, _, _, _, _, _, _, _, hf, _⟩ | ⟨q, st₀, t, T', L9, E9, ce, h0, X', hL, e1, e2, ⟨hE, hF, hB1, hB2, hB3⟩, hce, hcv, hcl, st9⟩
  · exact hf.elim
  · subst hE
    obtain ⟨-, -, hS1⟩ := vx_keep h0 e1 (va_S.rf (A := fun q => base ≤ q)) (fun q _ h => h) (fun q h => h) hL hF
    have hP1 : va_P D vwCl (ai_w (et_ad base b w) aC 231 (mem X Y)) T'.heap := by rw [e1]; exact hB1
    have hcell : T'.heap[q]? = some ce := by rw [e1]; exact hce
    have hw9 : vx_W p l e (headSpec (Cond.codeWith yWgf method_5_code 8 (some .int) [((0 : Nat), (15 : Nat), (18 : Nat), (13 : Nat))] :: et_tb) (ai_rm2 (d + 1) 1 6)).room s m (List.map (ai_cv (et_ad base b w)) [.ref 0, .int x, .int y, .int z, .int u, .int o, .ref 230]).toArray below meth c T'.heap ([] ++ L9) (0 + 1) (0 + 6) (MQ below (ai_Qc (lG L xs) vwCl D (et_ad base b w) aC base 231 (mem X Y) [.int (Int32.ofInt 1)]) (List.map (ai_cv (et_ad base b w)) [.ref 0, .int x, .int y, .int z, .int u, .int o, .ref 230]).toArray s 1 6 (fun q => base ≤ q)) (F0 m 11 ls [.int (Int32.ofInt 0), .ref (et_ad base b w 230)]) q := by
      refine vx_catch (name := nsX) hown [] xe [] htab (fun z hz => nomatch hz) hcov (by rw [hct]; decide) (by rw [hct]; exact hts' _ ns_c2) hcast hcell hcv hcl ?_
      rw [hhp]
      refine lv_astore hx hb (by decide +kernel) hl.has (by decide : 7 < 8) rfl (fun ls' _ => ?_)
      refine lv_iconst (n := 1) hx hb (by decide +kernel) rfl ?_
      exact W.iret hx hb hr0 (fun t ht _ => ⟨⟨rfl, by rw [ht]; exact hP1, (fun h => by cases h), hB3⟩, hS1.F ht⟩) hS1.2.2 (by decide +kernel)
    obtain ⟨t2, a1, b1⟩ := hw9 T' rfl X'
    exact ⟨t2, st9.trans a1, b1⟩
end WRP
