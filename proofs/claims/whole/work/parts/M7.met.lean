/-! THROWN: person, story, griefs where they throw -/
section NSM
variable {l : Launch} {base b w v L sl d : Nat} {xs : Nat → Int32} {aC : Nat → ClassId} {D : va_G} {X : mX} {Y : mY}
def lEx (base b w v L : Nat) (xs : Nat → Int32) : State → Prop := et_Ex (et_Sx base w v (nsE base)) b base L xs
def nsTh (K pc : Nat) : Prop := (K = 173 ∧ (pc = 14 ∨ pc = 188)) ∨ (K = 174 ∧ (pc = 14 ∨ pc = 107)) ∨ (K = 175 ∧ pc = 31)
def nsXC (base b w L : Nat) (xs : Nat → Int32) (aC : Nat → ClassId) (D : va_G) (X : mX) (Y : mY) : String → State → State → Prop := fun E st t => E = nsX ∧ va_F (fun q => base ≤ q) st t ∧ ai_B (lG L xs) vwCl D (et_ad base b w) aC base 231 (mem X Y) t
theorem lOK {G : ai_G} (hG : G.2 = (L, xs)) : ai_OK2 l ET G vwCl et_cc et_y et_on et_tb D (et_tys aC) (et_ad base b w) aC (lEx base b w v L xs) base := et_OK nsE.warm nsE.same hG
theorem ns_hat {args : Array Value} {s : State} (hts : ∀ w ∈ et_tb, w.before args s = true) (hB : ∀ w ∈ nsB, w.before #[] s = true) : ∀ w ∈ nsAt, w.before args s = true := by
  intro w hw
  rcases ns_mem w hw with h | h
  · exact va_tabs (u := s) (U := s) (nsB_tab w h) rfl (hB w h)
  · exact hts w h
theorem ns_good : ∀ w ∈ Cond.classLink "EarTown" 146 nsX :: Cond.initialized nsX :: vy_at "EarTown" 150 nsX nsY 13 prog_29_method_4_code ["java/lang/Exception"], vx_ot w = true := fun w hw => List.all_eq_true.mp ns_ot w hw
theorem ns_nm : ∀ n ∈ ["java/lang/Exception"], Bundle.fit n = true := by decide +kernel
section
variable {p : Program} {e : Env} {R : Room} {s : State} {m : MethodId} {args : Array Value} {below : List Frame} {meth : Method} {c : Code} {H : Heap} {locs : List Loc} {ls : Array Slot}
theorem ns_W {K pc : Nat} (hpc : nsTh K pc) (hC : ai_Cx ET vwCl et_cc et_on et_tb D (et_tys aC) (lEx base b w v L xs) base K p s m args meth c) (hl : l.stackTraces = false) (hexc : ∀ x ∈ c.exceptionTable.toList, False) (hR1 : 6 ≤ R.frames) (hR2 : 100 ≤ R.locals) (hR3 : 1 ≤ R.cells) (hR4 : 6 ≤ R.slots) (hlocks : meth.locks = false) (hS : va_S (fun q => base ≤ q) s.heap H locs) (hP : va_P D vwCl (ai_w (et_ad base b w) aC 231 (mem X Y)) H) (hls : ls.size = c.maxLocals) :
    W p l e R s m args below meth c H locs 0 0 (vx_MQ below (fun _ _ _ _ => False) (nsXC base b w L xs aC D X Y) args s 1 6 (fun q => base ≤ q)) (F0 m pc ls []) := by
  obtain ⟨hx, hb, hml, hown, hini, hts, hK, hEx, hbase⟩ := id hC
  obtain ⟨hU, hN, hT, hB⟩ := hEx.2.2.2.2.2.2
  have hat := ns_hat hts hB
  have hXC : ∀ t : State, s.vm.Alike t.vm → H.size ≤ t.heap.size → (∀ q : Nat, q < H.size → t.heap[q]? = H[q]?) → nsXC base b w L xs aC D X Y nsX s t := by
    intro t _ hz hk
    refine ⟨rfl, ⟨Nat.le_trans hS.1 hz, fun q h1 h2 => ?_⟩, ?_, (fun h => by cases h), by omega⟩
    · rw [hk q (Nat.lt_of_lt_of_le h1 hS.1)]
      exact hS.2.1 q h1 h2
    · exact hP.kept (fun k q hq => hk q.1 (vx_lt hP hq))
  have hout : ∀ q, ∀ x ∈ c.exceptionTable.toList, covers x q = false := fun q x hx' => (hexc x hx').elim
  have hz : (([] : List Value).map fun v => v.category).sum = 0 := rfl
  rcases hpc with ⟨rfl, rfl | rfl⟩ | ⟨rfl, rfl | rfl⟩ | ⟨rfl, rfl⟩
  · obtain ⟨sa, hs⟩ := hT (148, "no such PERSON") (by decide)
    have e : et_on (ai_own ET 173) = "EarTown" := by decide +kernel
    have hown' : s.vm.findClass "EarTown" = some m.cls := by rw [← e]; exact hown
    exact vy_throwS (own := "EarTown") (cls := nsX) (up := nsY) (names := ["java/lang/Exception"]) (text := "no such PERSON") (ik := 146) (is := 148) (ic := 150) (ix := 13) (bx := prog_29_method_4_code) (A := fun q => base ≤ q) hx hb hl hown' (by decide +kernel) (by decide +kernel) (by decide +kernel) (by decide +kernel) (by decide +kernel) (by decide +kernel) ns_nm (hts _ ns_c0) (hts _ ns_c1) hs hat ns_good hU hN hS hls (by decide +kernel) (by decide +kernel) (by decide +kernel) (by decide +kernel) (by decide +kernel) (hout _) (show 1 + 4 < R.frames by omega) (show (([] : List Value).map fun v => v.category).sum + (13 * (1 + 2) + 43) ≤ R.locals by rw [hz]; omega) (by omega) (by omega) hlocks hXC hS.2.2 (by omega) (by omega)
  · obtain ⟨sa, hs⟩ := hT (190, "no such what of a PERSON") (by decide)
    have e : et_on (ai_own ET 173) = "EarTown" := by decide +kernel
    have hown' : s.vm.findClass "EarTown" = some m.cls := by rw [← e]; exact hown
    exact vy_throwS (own := "EarTown") (cls := nsX) (up := nsY) (names := ["java/lang/Exception"]) (text := "no such what of a PERSON") (ik := 146) (is := 190) (ic := 150) (ix := 13) (bx := prog_29_method_4_code) (A := fun q => base ≤ q) hx hb hl hown' (by decide +kernel) (by decide +kernel) (by decide +kernel) (by decide +kernel) (by decide +kernel) (by decide +kernel) ns_nm (hts _ ns_c0) (hts _ ns_c1) hs hat ns_good hU hN hS hls (by decide +kernel) (by decide +kernel) (by decide +kernel) (by decide +kernel) (by decide +kernel) (hout _) (show 1 + 4 < R.frames by omega) (show (([] : List Value).map fun v => v.category).sum + (13 * (1 + 2) + 43) ≤ R.locals by rw [hz]; omega) (by omega) (by omega) hlocks hXC hS.2.2 (by omega) (by omega)
  · obtain ⟨sa, hs⟩ := hT (203, "no such STORY") (by decide)
    have e : et_on (ai_own ET 174) = "EarTown" := by decide +kernel
    have hown' : s.vm.findClass "EarTown" = some m.cls := by rw [← e]; exact hown
    exact vy_throwS (own := "EarTown") (cls := nsX) (up := nsY) (names := ["java/lang/Exception"]) (text := "no such STORY") (ik := 146) (is := 203) (ic := 150) (ix := 13) (bx := prog_29_method_4_code) (A := fun q => base ≤ q) hx hb hl hown' (by decide +kernel) (by decide +kernel) (by decide +kernel) (by decide +kernel) (by decide +kernel) (by decide +kernel) ns_nm (hts _ ns_c0) (hts _ ns_c1) hs hat ns_good hU hN hS hls (by decide +kernel) (by decide +kernel) (by decide +kernel) (by decide +kernel) (by decide +kernel) (hout _) (show 1 + 4 < R.frames by omega) (show (([] : List Value).map fun v => v.category).sum + (13 * (1 + 2) + 43) ≤ R.locals by rw [hz]; omega) (by omega) (by omega) hlocks hXC hS.2.2 (by omega) (by omega)
  · obtain ⟨sa, hs⟩ := hT (217, "no such what of a STORY") (by decide)
    have e : et_on (ai_own ET 174) = "EarTown" := by decide +kernel
    have hown' : s.vm.findClass "EarTown" = some m.cls := by rw [← e]; exact hown
    exact vy_throwS (own := "EarTown") (cls := nsX) (up := nsY) (names := ["java/lang/Exception"]) (text := "no such what of a STORY") (ik := 146) (is := 217) (ic := 150) (ix := 13) (bx := prog_29_method_4_code) (A := fun q => base ≤ q) hx hb hl hown' (by decide +kernel) (by decide +kernel) (by decide +kernel) (by decide +kernel) (by decide +kernel) (by decide +kernel) ns_nm (hts _ ns_c0) (hts _ ns_c1) hs hat ns_good hU hN hS hls (by decide +kernel) (by decide +kernel) (by decide +kernel) (by decide +kernel) (by decide +kernel) (hout _) (show 1 + 4 < R.frames by omega) (show (([] : List Value).map fun v => v.category).sum + (13 * (1 + 2) + 43) ≤ R.locals by rw [hz]; omega) (by omega) (by omega) hlocks hXC hS.2.2 (by omega) (by omega)
  · obtain ⟨sa, hs⟩ := hT (322, "no such GRIEFS") (by decide)
    have e : et_on (ai_own ET 175) = "EarTown" := by decide +kernel
    have hown' : s.vm.findClass "EarTown" = some m.cls := by rw [← e]; exact hown
    exact vy_throwSW (own := "EarTown") (cls := nsX) (up := nsY) (names := ["java/lang/Exception"]) (text := "no such GRIEFS") (ik := 146) (is := 322) (ic := 150) (ix := 13) (bx := prog_29_method_4_code) (A := fun q => base ≤ q) hx hb hl hown' (by decide +kernel) (by decide +kernel) (by decide +kernel) (by decide +kernel) (by decide +kernel) (by decide +kernel) ns_nm (hts _ ns_c0) (hts _ ns_c1) hs hat ns_good hU hN hS hls (by decide +kernel) (by decide +kernel) (by decide +kernel) (by decide +kernel) (by decide +kernel) (hout _) (show 1 + 4 < R.frames by omega) (show (([] : List Value).map fun v => v.category).sum + (13 * (1 + 2) + 43) ≤ R.locals by rw [hz]; omega) (by omega) (by omega) hlocks hXC hS.2.2 (by omega) (by omega)
end
theorem ns_y : (List.range 290).all (fun K => decide (¬ (K = 173 ∨ K = 174 ∨ K = 175)) || (decide ((et_y K).cls = et_on (ai_own ET K)) && plainName (et_y K).cls && decide (ai_ini ET K = false))) = true := by decide +kernel
set_option maxHeartbeats 4000000 in
theorem nsMet {K : Nat} {vs : List Value} (hl : l.stackTraces = false) (hK3 : K = 173 ∨ K = 174 ∨ K = 175) (hlen : (ai_ar vs).length ≤ ai_mx ET K)
    (run : awi ET (lG L xs) d K (0, ai_en vs (ai_mx ET K), [], 231, sl, mem X Y) (fun z => z.2.2 = ([], 231, sl, mem X Y) ∧ nsTh K z.1)) :
    vx_Met l (et_y K) (Cond.code (et_y K) (et_cc K) (ai_mx ET K) (ai_rt ET K) :: et_tb) (ai_rm2 d 1 6) (ai_Pc (lG L xs) vwCl D (et_tys aC) (et_ad base b w) aC (lEx base b w v L xs) base 231 (mem X Y) vs) (fun _ _ _ _ => False) (nsXC base b w L xs aC D X Y) 1 6 (fun q => base ≤ q) := by
  have hy := List.all_eq_true.mp ns_y K (List.mem_range.mpr (by omega))
  rw [Bool.or_eq_true, decide_eq_true_eq] at hy
  have hy' := hy.resolve_left (fun h => h hK3)
  rw [Bool.and_eq_true, Bool.and_eq_true, decide_eq_true_eq, decide_eq_true_eq] at hy'
  obtain ⟨⟨hy1, hy2⟩, hy3⟩ := hy'
  refine vx_ofW (cc := et_cc K) (maxL := ai_mx ET K) (ret := ai_rt ET K) hy2 rfl ?_
  intro p e s m args below meth c s₁ B hml hexc hv
  obtain ⟨rfl, hKK, hEx, hbase, hP, hg, hn9⟩ := hv
  have hts := atoms_spec (ws := Cond.code (et_y K) (et_cc K) (ai_mx ET K) (ai_rt ET K) :: et_tb) B.pre
  have hown : s.vm.findClass (et_on (ai_own ET K)) = some m.cls := by rw [← hy1]; exact findClass_of_methodNamed B.named
  have hlocks := B.notSynchronized
  have hx := B.exec
  have hb := B.bytes
  obtain ⟨f, k, ⟨pc', L', st', n', sl', M'⟩, hit, hz2, hth⟩ := run
  cases hz2
  have hC : ai_Cx ET vwCl et_cc et_on et_tb D (et_tys aC) (lEx base b w v L xs) base K p s m (vs.map (ai_cv (et_ad base b w))).toArray meth c := ⟨hx, hb, hml, hown, fun z => (Bool.false_ne_true (hy3.symm.trans z)).elim, fun w hw => hts w (List.mem_cons_of_mem _ hw), hKK, hEx, hbase⟩
  rw [lg_entry_eq]
  refine (ai_it_sim2 (lOK rfl) (f := f) (d := d) (mi := K) k _ _ hit).2.2 p e _ s m _ below meth c _ 231 0 sl 0 hC (Nat.le_refl (d + 8)) (Nat.le_refl (60 * d + 100)) ⟨?_, ?_⟩ ?_ s.heap [] _ 0 0 rfl rfl hP va_S.rf hg hn9 (ai_H_entry hlen)
  · show 0 + 231 ≤ 1 + 231
    omega
  · show 0 + sl ≤ 6 + sl
    omega
  · intro H locs ls cells slots e1 e2 hP' hS' hg' hn' hl'
    have e1' : cells = 0 := by simp only at e1; omega
    have e2' : slots = 0 := by simp only at e2; omega
    subst e1'; subst e2'
    exact ns_W hth hC hl hexc (show 6 ≤ d + 8 by omega) (show 100 ≤ 60 * d + 100 by omega) (Nat.le_refl 1) (Nat.le_refl 6) hlocks hS' hP' (hl'.2.1.trans hml.symm)
end NSM
