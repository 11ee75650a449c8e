/-! THE LIBRARY'S OWN: the length and a sign of the text of words -/
section JDK
variable {p : Program} {l : Launch} {e : Env} {R : Room} {s : State} {m : MethodId} {args : Array Value} {below : List Frame} {meth : Method} {c : Code} {H : Heap} {locs : List Loc} {cells slots : Nat} {Q : State → Prop}
variable {base w v pc nL : Nat} {ls : Array Slot} {rest As : List Value} {cc : ByteArray}
/-- the text of words: its object w, its bytes v -/
def tx_S (base w v : Nat) (U : State) : Prop := va_O "java/lang/String" w (fun q => base ≤ q) U U.heap ∧ va_OF "java/lang/String" "coder" "B" (.int 0) w (fun q => base ≤ q) U U.heap ∧ va_OF "java/lang/String" "value" "[B" (.ref v) w (fun q => base ≤ q) U U.heap ∧ va_T .byte v 113 (fun j => .int (et_keys.getD j 0)) (fun q => base ≤ q) U U.heap ∧ va_Z "java/lang/String" "COMPACT_STRINGS" "Z" (.int 1) (fun q => base ≤ q) U U.heap ∧ va_Zq "jdk/internal/util/Preconditions" "SIOOBE_FORMATTER" "Ljava/util/function/BiFunction;" (fun q => base ≤ q) U U.heap
theorem tx_S.warm {U : State} (hW : s.vm.Alike U.vm) (hk : ∀ q : Nat, q < base → U.heap[q]? = s.heap[q]?) (h : tx_S base w v s) : tx_S base w v U := by
  obtain ⟨h1, h2, h3, h4, h5, h6⟩ := h
  have k : ∀ a : Nat, a < s.heap.size → ¬ base ≤ a → U.heap[a]? = s.heap[a]? := fun a _ hn => hk a (by omega)
  exact ⟨(h1.moved hW).kept k, (h2.moved hW).kept k, (h3.moved hW).kept k, (h4.moved hW).kept k, (h5.moved hW).kept k, (h6.moved hW).kept k⟩
def jPc (base w v : Nat) (H9 : Heap) (av : List Value) : Array Value → State → Prop := va_Pc av (fun U => U.heap = H9 ∧ tx_S base w v U ∧ base ≤ U.heap.size)
def jQc (H9 : Heap) (o : Option Value) : Array Value → State → Outcome → State → Prop := fun _ _ oc t => oc = .returned o ∧ t.heap = H9
def jRm (k : Nat) : Room := { frames := k, cells := 0, slots := 0, locals := 30 * k }
/-- a method that reads alone: its answer, the same heap -/
def jMet (l : Launch) (y : MethodName) (bytes : ByteArray) (maxL : Nat) (ret : Option FieldType) (base w v k : Nat) (av : List Value) (o : Option Value) : Prop := ∀ H9, Met l y (Cond.code y bytes maxL ret :: et_tb) (jRm k) (jPc base w v H9 av) (jQc H9 o) 0 0 (fun _ => False)
theorem jd_after {st0 : List Value} {o : Option Value} {a : Array Value} (hr : va_Run p l e R s m args below meth c H locs cells slots 0 0 (F0 m pc ls st0) rest (jQc H o a) (fun _ => False)) (kk : W p l e R s m args below meth c H locs cells slots Q (F0 m (pc + 3) ls (o.toList ++ rest))) : W p l e R s m args below meth c H locs cells slots Q (F0 m pc ls st0) := by
  intro T0 hT X
  obtain ⟨v', st₀, t, T', Ll, h0, X', hL, e1, e2, ⟨hv, hh⟩, st⟩ := hr T0 hT X
  cases hv
  have hn : Ll = [] := List.eq_nil_iff_forall_not_mem.mpr (fun q hq => hL q hq)
  subst hn
  rw [List.append_nil] at X'
  obtain ⟨t2, a1, b1⟩ := kk T' (e1.trans hh) X'
  exact ⟨t2, st t2 a1, b1⟩
theorem jPc_blind {H9 : Heap} {av : List Value} : FrameBlind (jPc base w v H9 av) := by
  intro a U g mk q
  obtain ⟨q0, q1, q2, q3⟩ := q
  exact ⟨q0, q1, tx_S.warm (s := U) (U := U.calling g mk a) (Vm.Alike.refl U.vm) (fun q _ => rfl) q2, q3⟩
theorem jPc_of {av : List Value} (hSx : tx_S base w v s) (hbase : base ≤ s.heap.size) (hS : va_S (fun q => base ≤ q) s.heap H locs) : ∀ U : State, U.heap = H → s.WarmedH U.vm → jPc base w v H av av.toArray U := by
  intro U hU hW
  refine ⟨rfl, hU, tx_S.warm hW.alike (fun q hq => ?_) hSx, ?_⟩
  · rw [hU]
    exact hS.2.1 q (by omega) (by omega)
  · rw [hU]
    exact Nat.le_trans hbase hS.1
theorem et_good {wd : Cond} (h : wd ∈ et_tb) : goodWord wd = true := (List.mem_filter.mp h).2
theorem j_pay {y : MethodName} {bytes : ByteArray} {maxL : Nat} {ret : Option FieldType} (hts : ∀ wd ∈ et_tb, wd.before args s = true) (hc : Cond.code y bytes maxL ret ∈ et_tb) : ∀ wd ∈ (Cond.code y bytes maxL ret :: et_tb), ∀ (a' : Array Value) (U : State), s.WarmedH U.vm → wd.before a' U = true := by
  refine pay_in hts (fun wd hw => ?_)
  rcases List.mem_cons.mp hw with rfl | hw
  · exact ⟨hc, good_of_word (et_good hc)⟩
  · exact ⟨hw, good_of_word (et_good hw)⟩
theorem jd_S {k index maxL : Nat} {own : String} {y : MethodName} {bytes : ByteArray} {ret : Option FieldType} {o : Option Value} (hM : jMet l y bytes maxL ret base w v k As o) (S : CallFix p m c cc nL s args et_tb own) (hc : Cond.code y bytes maxL ret ∈ et_tb) (hi : Cond.initialized y.cls ∈ et_tb) (hlk : Cond.methodLink own index y ∈ et_tb) (hst : Cond.static y ∈ et_tb) (hy : y.cls ≠ "java/lang/invoke/MethodHandle" ∧ y.cls ≠ "java/lang/invoke/VarHandle") (hn : (parseMethodDescriptor y.desc).map (fun d => d.parameters.length) = some As.length) (hR : k + 1 ≤ R.frames ∧ 8 + (maxL + 11) + 30 * k ≤ R.locals) (hSx : tx_S base w v s) (hbase : base ≤ s.heap.size) (hS : va_S (fun q => base ≤ q) s.heap H locs) (hls : ls.size = nL) (hrest : (rest.map fun v => v.category).sum ≤ 8) (hcs : cells ≤ R.cells ∧ slots ≤ R.slots) (hdg : decode cc pc = .ok (.invokestatic index, 3)) (kk : W p l e R s m args below meth c H locs cells slots Q (F0 m (pc + 3) ls (o.toList ++ rest))) : W p l e R s m args below meth c H locs cells slots Q (F0 m pc ls (As.reverse ++ rest)) := by
  have hts := S.2.2.2.2
  refine jd_after (a := As.toArray) (va_runS (Ts := et_tb) (n := As.length) S (hM H) ⟨⟨rfl, rfl, hR.1, hR.2, j_pay hts hc, List.mem_cons_self, hts _ hc, hts _ hi, hy, fun sig h => ?_, hts _ hlk⟩, hts _ hst⟩ ⟨jPc_blind, jPc_of hSx hbase hS⟩ rfl rfl hls rfl (lv_room hrest) hdg hcs) kk
  rw [h] at hn
  exact (Option.some.inj hn).symm
theorem jd_V {k index maxL : Nat} {own : String} {y : MethodName} {bytes : ByteArray} {ret : Option FieldType} {o : Option Value} (hM : jMet l y bytes maxL ret base w v k (.ref w :: As) o) (S : CallFix p m c cc nL s args et_tb own) (hcl : y.cls = "java/lang/String") (hc : Cond.code y bytes maxL ret ∈ et_tb) (hi : Cond.initialized y.cls ∈ et_tb) (hlk : Cond.methodLink own index y ∈ et_tb) (hst : Cond.instanceMethod y ∈ et_tb) (hsl : Cond.selects "java/lang/String" y y ∈ et_tb) (hy : y.cls ≠ "java/lang/invoke/MethodHandle" ∧ y.cls ≠ "java/lang/invoke/VarHandle") (hn : (parseMethodDescriptor y.desc).map (fun d => d.parameters.length) = some As.length) (hR : k + 1 ≤ R.frames ∧ 8 + (maxL + 11) + 30 * k ≤ R.locals) (hSx : tx_S base w v s) (hbase : base ≤ s.heap.size) (hS : va_S (fun q => base ≤ q) s.heap H locs) (hls : ls.size = nL) (hrest : (rest.map fun v => v.category).sum ≤ 8) (hcs : cells ≤ R.cells ∧ slots ≤ R.slots) (hdg : decode cc pc = .ok (.invokevirtual index, 3)) (kk : W p l e R s m args below meth c H locs cells slots Q (F0 m (pc + 3) ls (o.toList ++ rest))) : W p l e R s m args below meth c H locs cells slots Q (F0 m pc ls (As.reverse ++ .ref w :: rest)) := by
  have hts := S.2.2.2.2
  have hrc : ∃ cell : Cell, H[w]? = some cell ∧ cell.vm.isStatics = false ∧ s.vm.findClass "java/lang/String" = some cell.cls := by
    obtain ⟨cell, h1, h2, h3, -⟩ := hSx.1.kept hS.2.1
    exact ⟨cell, h1, h2, h3⟩
  refine jd_after (a := (Value.ref w :: As).toArray) (va_runV (C := "java/lang/String") (Ts := et_tb) (n := As.length) S (hM H) ⟨⟨rfl, rfl, hR.1, hR.2, j_pay hts hc, List.mem_cons_self, hts _ hc, hts _ hi, hy, fun sig h => ?_, hts _ hlk⟩, hts _ hst, hts _ hsl⟩ ⟨jPc_blind, hrc, jPc_of hSx hbase hS⟩ rfl rfl hls rfl (lv_room hrest) hdg hcs) kk
  rw [h] at hn
  exact (Option.some.inj hn).symm
def yCoder : MethodName := { cls := "java/lang/String", name := "coder", desc := "()B" }
def yLatin : MethodName := { cls := "java/lang/String", name := "isLatin1", desc := "()Z" }
def yLen : MethodName := { cls := "java/lang/String", name := "length", desc := "()I" }
def yCharAt : MethodName := { cls := "java/lang/String", name := "charAt", desc := "(I)C" }
def yLCharAt : MethodName := { cls := "java/lang/StringLatin1", name := "charAt", desc := "([BI)C" }
def yChk : MethodName := { cls := "java/lang/String", name := "checkIndex", desc := "(II)V" }
def yPchk : MethodName := { cls := "jdk/internal/util/Preconditions", name := "checkIndex", desc := "(IILjava/util/function/BiFunction;)I" }
theorem m_coder : jMet l yCoder prog_22_method_152_code 1 (some .byte) base w v 0 [.ref w] (some (.int 0)) := by
  intro H9
  refine Met.ofW (cc := prog_22_method_152_code) (maxL := 1) (ret := some .byte) (by decide) rfl ?_
  intro p e s m args below meth c s₁ B hml hv
  obtain ⟨rfl, hH, hSx, hbase⟩ := hv
  have hx := B.exec
  have hb := B.bytes
  have hr := B.returns
  have hts : ∀ wd ∈ et_tb, wd.before _ s = true := fun wd hw => atoms_spec (ws := Cond.code yCoder prog_22_method_152_code 1 (some .byte) :: et_tb) B.pre wd (List.mem_cons_of_mem _ hw)
  have hown : s.vm.findClass "java/lang/String" = some m.cls := findClass_of_methodNamed B.named
  have hlocks := B.notSynchronized
  have hS : va_S (fun q => base ≤ q) s.heap s.heap [] := va_S.rf
  have hl := lv_entry ([.ref w]) (n := 1) (Nat.le_of_ble_eq_true rfl)
  rw [lg_entry_eq]
  generalize (lg_sl ([.ref w]) ++ List.replicate (1 - (lg_sl ([.ref w])).length) Slot.unset).toArray = ls at hl ⊢
  have hl : lv_has ls 1 [(0, .ref w)] := hl
  obtain ⟨-, h2, -, -, h5, -⟩ := hSx
  refine va_gets hx hb h5 hS hown (hts _ jw541) (fun _ h => h) (index := 38) (by decide +kernel) ?_
  refine lv_if_eq (tgt := 13) hx hb (off := 10) (by decide +kernel) (by decide) (fun q => absurd q (by decide)) (fun _ => ?_)
  refine lv_aload_n hx hb (k := 0) (by decide +kernel) rfl (lv_at hl 0 rfl) ?_
  refine vk_getf hx hb h2 hS hown (hts _ jw1993) (fun _ h => h) (index := 15) (by decide +kernel) ?_
  refine lv_goto (tgt := 14) hx hb (off := 4) (by decide +kernel) (by decide) ?_
  exact W.zret hx hb hr (by decide) (fun t ht _ => ⟨rfl, ht.trans hH⟩) (fun q hq => by cases hq) (by decide +kernel)
theorem m_latin : jMet l yLatin prog_22_method_154_code 1 (some .boolean) base w v 0 [.ref w] (some (.int 1)) := by
  intro H9
  refine Met.ofW (cc := prog_22_method_154_code) (maxL := 1) (ret := some .boolean) (by decide) rfl ?_
  intro p e s m args below meth c s₁ B hml hv
  obtain ⟨rfl, hH, hSx, hbase⟩ := hv
  have hx := B.exec
  have hb := B.bytes
  have hr := B.returns
  have hts : ∀ wd ∈ et_tb, wd.before _ s = true := fun wd hw => atoms_spec (ws := Cond.code yLatin prog_22_method_154_code 1 (some .boolean) :: et_tb) B.pre wd (List.mem_cons_of_mem _ hw)
  have hown : s.vm.findClass "java/lang/String" = some m.cls := findClass_of_methodNamed B.named
  have hlocks := B.notSynchronized
  have hS : va_S (fun q => base ≤ q) s.heap s.heap [] := va_S.rf
  have hl := lv_entry ([.ref w]) (n := 1) (Nat.le_of_ble_eq_true rfl)
  rw [lg_entry_eq]
  generalize (lg_sl ([.ref w]) ++ List.replicate (1 - (lg_sl ([.ref w])).length) Slot.unset).toArray = ls at hl ⊢
  have hl : lv_has ls 1 [(0, .ref w)] := hl
  obtain ⟨-, h2, -, -, h5, -⟩ := hSx
  refine va_gets hx hb h5 hS hown (hts _ jw541) (fun _ h => h) (index := 38) (by decide +kernel) ?_
  refine lv_if_eq (tgt := 17) hx hb (off := 14) (by decide +kernel) (by decide) (fun q => absurd q (by decide)) (fun _ => ?_)
  refine lv_aload_n hx hb (k := 0) (by decide +kernel) rfl (lv_at hl 0 rfl) ?_
  refine vk_getf hx hb h2 hS hown (hts _ jw1993) (fun _ h => h) (index := 15) (by decide +kernel) ?_
  refine lv_if_ne (tgt := 17) hx hb (off := 7) (by decide +kernel) (by decide) (fun q => absurd rfl q) (fun _ => ?_)
  refine lv_iconst (v := 1) hx hb (n := 1) (by decide +kernel) (by decide) ?_
  refine lv_goto (tgt := 18) hx hb (off := 4) (by decide +kernel) (by decide) ?_
  exact W.zret hx hb hr (by decide) (fun t ht _ => ⟨rfl, ht.trans hH⟩) (fun q hq => by cases hq) (by decide +kernel)
theorem m_len : jMet l yLen prog_22_method_54_code 1 (some .int) base w v 1 [.ref w] (some (.int 113)) := by
  intro H9
  refine Met.ofW (cc := prog_22_method_54_code) (maxL := 1) (ret := some .int) (by decide) rfl ?_
  intro p e s m args below meth c s₁ B hml hv
  obtain ⟨rfl, hH, hSx, hbase⟩ := hv
  have hx := B.exec
  have hb := B.bytes
  have hr := B.returns
  have hts : ∀ wd ∈ et_tb, wd.before _ s = true := fun wd hw => atoms_spec (ws := Cond.code yLen prog_22_method_54_code 1 (some .int) :: et_tb) B.pre wd (List.mem_cons_of_mem _ hw)
  have hown : s.vm.findClass "java/lang/String" = some m.cls := findClass_of_methodNamed B.named
  have hlocks := B.notSynchronized
  have hS : va_S (fun q => base ≤ q) s.heap s.heap [] := va_S.rf
  have hl := lv_entry ([.ref w]) (n := 1) (Nat.le_of_ble_eq_true rfl)
  rw [lg_entry_eq]
  generalize (lg_sl ([.ref w]) ++ List.replicate (1 - (lg_sl ([.ref w])).length) Slot.unset).toArray = ls at hl ⊢
  have hl : lv_has ls 1 [(0, .ref w)] := hl
  have hSx0 := hSx
  obtain ⟨-, h2, h3, h4, h5, -⟩ := hSx
  refine lv_aload_n hx hb (k := 0) (by decide +kernel) rfl (lv_at hl 0 rfl) ?_
  refine vk_getf hx hb h3 hS hown (hts _ jw1992) (fun _ h => h) (index := 9) (by decide +kernel) ?_
  refine va_tlen hx hb h4 hS (v := 113) (by decide) (by decide +kernel) ?_
  refine lv_aload_n hx hb (k := 0) (by decide +kernel) rfl (lv_at hl 0 rfl) ?_
  refine jd_V (As := []) (index := 335) (rest := [.int 113]) m_coder ⟨hx, hb, hml, hown, hts⟩ rfl jw540 jw15 jw537 jw538 jw539 (by decide) (by decide +kernel) ⟨Nat.le_of_ble_eq_true rfl, Nat.le_of_ble_eq_true rfl⟩ hSx0 hbase hS hl.1 (Nat.le_of_ble_eq_true rfl) ⟨Nat.le_of_ble_eq_true rfl, Nat.le_of_ble_eq_true rfl⟩ (by decide +kernel) ?_
  show W _ _ _ _ _ _ _ _ _ _ _ _ _ _ _ (F0 m 9 ls [.int 0, .int 113])
  refine lv_ishr hx hb (by decide +kernel) ?_
  exact W.iret hx hb hr (fun t ht _ => ⟨rfl, ht.trans hH⟩) (fun q hq => by cases hq) (by decide +kernel)
theorem m_pchk {i : Nat} {f : Value} (hi : i < 113) (hf : f = .null ∨ ∃ t, f = .ref t) : jMet l yPchk prog_30_method_11_code 3 (some .int) base w v 0 [.int (nI i), .int 113, f] (some (.int (nI i))) := by
  intro H9
  refine Met.ofW (cc := prog_30_method_11_code) (maxL := 3) (ret := some .int) (by decide) rfl ?_
  intro p e s m args below meth c s₁ B hml hv
  obtain ⟨rfl, hH, hSx, hbase⟩ := hv
  have hx := B.exec
  have hb := B.bytes
  have hr := B.returns
  have hlocks := B.notSynchronized
  have hsz : (lg_sl ([.int (nI i), .int 113, f])).length ≤ 3 := by
    rcases hf with rfl | ⟨t, rfl⟩ <;> exact Nat.le_of_ble_eq_true rfl
  have hl := lv_entry ([.int (nI i), .int 113, f]) (n := 3) hsz
  rw [lg_entry_eq]
  generalize (lg_sl ([.int (nI i), .int 113, f]) ++ List.replicate (3 - (lg_sl ([.int (nI i), .int 113, f])).length) Slot.unset).toArray = ls at hl ⊢
  have hl : lv_has ls 3 [(0, .int (nI i)), (1, .int 113)] := lv_sub hl [0, 1] rfl
  have c1 : ¬ nI i < 0 := by
    intro q
    have := (nI_ltI (a := i) (b := 0) (by omega) (by omega)).mp q
    omega
  have c2 : nI i < 113 := (nI_ltI (a := i) (b := 113) (by omega) (by omega)).mpr hi
  refine lv_iload_n hx hb (k := 0) (by decide +kernel) rfl (lv_at hl 0 rfl) ?_
  refine lv_if_lt (tgt := 9) hx hb (off := 8) (by decide +kernel) (by decide) (fun q => absurd q c1) (fun _ => ?_)
  refine lv_iload_n hx hb (k := 0) (by decide +kernel) rfl (lv_at hl 0 rfl) ?_
  refine lv_iload_n hx hb (k := 1) (by decide +kernel) rfl (lv_at hl 1 rfl) ?_
  refine lv_icmp_lt (tgt := 16) hx hb (off := 10) (by decide +kernel) (by decide) (fun _ => ?_) (fun q => absurd c2 q)
  refine lv_iload_n hx hb (k := 0) (by decide +kernel) rfl (lv_at hl 0 rfl) ?_
  exact W.iret hx hb hr (fun t ht _ => ⟨rfl, ht.trans hH⟩) (fun q hq => by cases hq) (by decide +kernel)
theorem m_chk {i : Nat} (hi : i < 113) : jMet l yChk prog_22_method_155_code 2 none base w v 1 [.int (nI i), .int 113] none := by
  intro H9
  refine Met.ofW (cc := prog_22_method_155_code) (maxL := 2) (ret := none) (by decide) rfl ?_
  intro p e s m args below meth c s₁ B hml hv
  obtain ⟨rfl, hH, hSx, hbase⟩ := hv
  have hx := B.exec
  have hb := B.bytes
  have hr := B.returns
  have hts : ∀ wd ∈ et_tb, wd.before _ s = true := fun wd hw => atoms_spec (ws := Cond.code yChk prog_22_method_155_code 2 none :: et_tb) B.pre wd (List.mem_cons_of_mem _ hw)
  have hown : s.vm.findClass "java/lang/String" = some m.cls := findClass_of_methodNamed B.named
  have hlocks := B.notSynchronized
  have hS : va_S (fun q => base ≤ q) s.heap s.heap [] := va_S.rf
  have hl := lv_entry ([.int (nI i), .int 113]) (n := 2) (Nat.le_of_ble_eq_true rfl)
  rw [lg_entry_eq]
  generalize (lg_sl ([.int (nI i), .int 113]) ++ List.replicate (2 - (lg_sl ([.int (nI i), .int 113])).length) Slot.unset).toArray = ls at hl ⊢
  have hl : lv_has ls 2 [(0, .int (nI i)), (1, .int 113)] := hl
  have hSx0 := hSx
  obtain ⟨-, -, -, -, -, h6⟩ := hSx
  have key : ∀ f : Value, (f = .null ∨ ∃ t, f = .ref t) → va_Z "jdk/internal/util/Preconditions" "SIOOBE_FORMATTER" "Ljava/util/function/BiFunction;" f (fun q => base ≤ q) s s.heap → W p l e (headSpec (Cond.code yChk prog_22_method_155_code 2 none :: et_tb) (jRm 1)).room s m [.int (nI i), .int 113].toArray below meth c s.heap [] 0 0 (MQ below (jQc H9 none) [.int (nI i), .int 113].toArray s 0 0 (fun _ => False)) (F0 m 0 ls []) := by
    intro f hf hz
    refine lv_iload_n hx hb (k := 0) (by decide +kernel) rfl (lv_at hl 0 rfl) ?_
    refine lv_iload_n hx hb (k := 1) (by decide +kernel) rfl (lv_at hl 1 rfl) ?_
    refine va_gets hx hb hz hS hown (hts _ jw557) (fun _ h => h) (index := 1053) (by decide +kernel) ?_
    refine jd_S (As := [.int (nI i), .int 113, f]) (index := 1059) (rest := []) (m_pchk hi hf) ⟨hx, hb, hml, hown, hts⟩ jw561 jw17 jw559 jw560 (by decide) (show (parseMethodDescriptor yPchk.desc).map (fun d => d.parameters.length) = some 3 by decide +kernel) ⟨Nat.le_of_ble_eq_true rfl, Nat.le_of_ble_eq_true rfl⟩ hSx0 hbase hS hl.1 (Nat.le_of_ble_eq_true rfl) ⟨Nat.le_of_ble_eq_true rfl, Nat.le_of_ble_eq_true rfl⟩ (by decide +kernel) ?_
    show W _ _ _ _ _ _ _ _ _ _ _ _ _ _ _ (F0 m 8 ls [.int (nI i)])
    refine lv_pop hx hb (by decide +kernel) rfl ?_
    exact W.vret hx hb hr (fun t ht _ => ⟨rfl, ht.trans hH⟩) (fun q hq => by cases hq) (by decide +kernel)
  rcases h6 with h6 | ⟨t, h6⟩
  · exact key .null (Or.inl rfl) h6
  · exact key (.ref t) (Or.inr ⟨t, rfl⟩) h6
theorem key_ch : ∀ i : Nat, i < 113 → ((et_keys.getD i 0 &&& (Int16.ofInt 255).toInt32).toUInt32 % 65536).toInt32 = et_keys.getD i 0 := by decide +kernel
theorem key_nar : ∀ i : Nat, i < 113 → narrow .char (.int (et_keys.getD i 0)) = .int (et_keys.getD i 0) := by decide +kernel
theorem m_lch {i : Nat} (hi : i < 113) : jMet l yLCharAt prog_23_method_2_code 2 (some .char) base w v 2 [.ref v, .int (nI i)] (some (.int (et_keys.getD i 0))) := by
  intro H9
  refine Met.ofW (cc := prog_23_method_2_code) (maxL := 2) (ret := some .char) (by decide) rfl ?_
  intro p e s m args below meth c s₁ B hml hv
  obtain ⟨rfl, hH, hSx, hbase⟩ := hv
  have hx := B.exec
  have hb := B.bytes
  have hr := B.returns
  have hts : ∀ wd ∈ et_tb, wd.before _ s = true := fun wd hw => atoms_spec (ws := Cond.code yLCharAt prog_23_method_2_code 2 (some .char) :: et_tb) B.pre wd (List.mem_cons_of_mem _ hw)
  have hown : s.vm.findClass "java/lang/StringLatin1" = some m.cls := findClass_of_methodNamed B.named
  have hlocks := B.notSynchronized
  have hS : va_S (fun q => base ≤ q) s.heap s.heap [] := va_S.rf
  have hl := lv_entry ([.ref v, .int (nI i)]) (n := 2) (Nat.le_of_ble_eq_true rfl)
  rw [lg_entry_eq]
  generalize (lg_sl ([.ref v, .int (nI i)]) ++ List.replicate (2 - (lg_sl ([.ref v, .int (nI i)])).length) Slot.unset).toArray = ls at hl ⊢
  have hl : lv_has ls 2 [(0, .ref v), (1, .int (nI i))] := hl
  have hSx0 := hSx
  obtain ⟨-, -, -, h4, -, -⟩ := hSx
  refine lv_iload_n hx hb (k := 1) (by decide +kernel) rfl (lv_at hl 1 rfl) ?_
  refine lv_aload_n hx hb (k := 0) (by decide +kernel) rfl (lv_at hl 0 rfl) ?_
  refine va_tlen hx hb h4 hS (v := 113) (by decide) (by decide +kernel) ?_
  refine jd_S (As := [.int (nI i), .int 113]) (index := 9) (rest := []) (m_chk hi) ⟨hx, hb, hml, hown, hts⟩ jw556 jw15 jw554 jw555 (by decide) (show (parseMethodDescriptor yChk.desc).map (fun d => d.parameters.length) = some 2 by decide +kernel) ⟨Nat.le_of_ble_eq_true rfl, Nat.le_of_ble_eq_true rfl⟩ hSx0 hbase hS hl.1 (Nat.le_of_ble_eq_true rfl) ⟨Nat.le_of_ble_eq_true rfl, Nat.le_of_ble_eq_true rfl⟩ (by decide +kernel) ?_
  show W _ _ _ _ _ _ _ _ _ _ _ _ _ _ _ (F0 m 6 ls [])
  refine lv_aload_n hx hb (k := 0) (by decide +kernel) rfl (lv_at hl 0 rfl) ?_
  refine lv_iload_n hx hb (k := 1) (by decide +kernel) rfl (lv_at hl 1 rfl) ?_
  refine va_tb hx hb h4 hS (i := nI i) (vp_in_nI hi (by omega)) (v := .int (et_keys.getD i 0)) (by rw [nI_clamp (by omega)]) (by decide +kernel) ?_
  refine lv_sipush (n := 255) (v := (Int16.ofInt 255).toInt32) hx hb (by decide +kernel) rfl ?_
  refine lv_iand hx hb (by decide +kernel) ?_
  refine lv_i2c (v := et_keys.getD i 0) hx hb (by decide +kernel) (key_ch i hi) ?_
  exact W.zret hx hb hr (key_nar i hi) (fun t ht _ => ⟨rfl, ht.trans hH⟩) (fun q hq => by cases hq) (by decide +kernel)
theorem m_charAt {i : Nat} (hi : i < 113) : jMet l yCharAt prog_22_method_56_code 2 (some .char) base w v 3 [.ref w, .int (nI i)] (some (.int (et_keys.getD i 0))) := by
  intro H9
  refine Met.ofW (cc := prog_22_method_56_code) (maxL := 2) (ret := some .char) (by decide) rfl ?_
  intro p e s m args below meth c s₁ B hml hv
  obtain ⟨rfl, hH, hSx, hbase⟩ := hv
  have hx := B.exec
  have hb := B.bytes
  have hr := B.returns
  have hts : ∀ wd ∈ et_tb, wd.before _ s = true := fun wd hw => atoms_spec (ws := Cond.code yCharAt prog_22_method_56_code 2 (some .char) :: et_tb) B.pre wd (List.mem_cons_of_mem _ hw)
  have hown : s.vm.findClass "java/lang/String" = some m.cls := findClass_of_methodNamed B.named
  have hlocks := B.notSynchronized
  have hS : va_S (fun q => base ≤ q) s.heap s.heap [] := va_S.rf
  have hl := lv_entry ([.ref w, .int (nI i)]) (n := 2) (Nat.le_of_ble_eq_true rfl)
  rw [lg_entry_eq]
  generalize (lg_sl ([.ref w, .int (nI i)]) ++ List.replicate (2 - (lg_sl ([.ref w, .int (nI i)])).length) Slot.unset).toArray = ls at hl ⊢
  have hl : lv_has ls 2 [(0, .ref w), (1, .int (nI i))] := hl
  have hSx0 := hSx
  obtain ⟨-, -, h3, -, -, -⟩ := hSx
  refine lv_aload_n hx hb (k := 0) (by decide +kernel) rfl (lv_at hl 0 rfl) ?_
  refine jd_V (As := []) (index := 492) (rest := []) m_latin ⟨hx, hb, hml, hown, hts⟩ rfl jw550 jw15 jw547 jw548 jw549 (by decide) (by decide +kernel) ⟨Nat.le_of_ble_eq_true rfl, Nat.le_of_ble_eq_true rfl⟩ hSx0 hbase hS hl.1 (Nat.le_of_ble_eq_true rfl) ⟨Nat.le_of_ble_eq_true rfl, Nat.le_of_ble_eq_true rfl⟩ (by decide +kernel) ?_
  show W _ _ _ _ _ _ _ _ _ _ _ _ _ _ _ (F0 m 4 ls [.int 1])
  refine lv_if_eq (tgt := 16) hx hb (off := 12) (by decide +kernel) (by decide) (fun q => absurd q (by decide)) (fun _ => ?_)
  refine lv_aload_n hx hb (k := 0) (by decide +kernel) rfl (lv_at hl 0 rfl) ?_
  refine vk_getf hx hb h3 hS hown (hts _ jw1992) (fun _ h => h) (index := 9) (by decide +kernel) ?_
  refine lv_iload_n hx hb (k := 1) (by decide +kernel) rfl (lv_at hl 1 rfl) ?_
  refine jd_S (As := [.ref v, .int (nI i)]) (index := 495) (rest := []) (m_lch hi) ⟨hx, hb, hml, hown, hts⟩ jw553 jw16 jw551 jw552 (by decide) (show (parseMethodDescriptor yLCharAt.desc).map (fun d => d.parameters.length) = some 2 by decide +kernel) ⟨Nat.le_of_ble_eq_true rfl, Nat.le_of_ble_eq_true rfl⟩ hSx0 hbase hS hl.1 (Nat.le_of_ble_eq_true rfl) ⟨Nat.le_of_ble_eq_true rfl, Nat.le_of_ble_eq_true rfl⟩ (by decide +kernel) ?_
  show W _ _ _ _ _ _ _ _ _ _ _ _ _ _ _ (F0 m 15 ls [.int (et_keys.getD i 0)])
  exact W.zret hx hb hr (key_nar i hi) (fun t ht _ => ⟨rfl, ht.trans hH⟩) (fun q hq => by cases hq) (by decide +kernel)
end JDK
