/-! THE MACHINE DOES WHAT THE INTERPRETER DOES, II: one instruction on locals and stack -/
section AIP
theorem ai_2i_some {st : List Value} {k : Int32 → Int32 → List Value → Option ai_C} {cfg : ai_C} (h : ai_2i none st k = some cfg) : ∃ x y st', st = .int y :: .int x :: st' ∧ k x y st' = some cfg := by
  unfold ai_2i at h
  split at h
  · exact ⟨_, _, _, rfl, h⟩
  · cases h
theorem ai_2l_some {st : List Value} {k : Int64 → Int64 → List Value → Option ai_C} {cfg : ai_C} (h : ai_2l none st k = some cfg) : ∃ x y st', st = .long y :: .long x :: st' ∧ k x y st' = some cfg := by
  unfold ai_2l at h
  split at h
  · exact ⟨_, _, _, rfl, h⟩
  · cases h
theorem ai_1i_some {st : List Value} {k : Int32 → List Value → Option ai_C} {cfg : ai_C} (h : ai_1i none st k = some cfg) : ∃ x st', st = .int x :: st' ∧ k x st' = some cfg := by
  unfold ai_1i at h
  split at h
  · exact ⟨_, _, rfl, h⟩
  · cases h
theorem ai_if_some {c : Prop} [Decidable c] {a : Option ai_C} {cfg : ai_C} (h : (if c then a else none) = some cfg) : c ∧ a = some cfg := by
  split at h
  · exact ⟨by assumption, h⟩
  · cases h
theorem ai_ifn_some {c : Prop} [Decidable c] {a : Option ai_C} {cfg : ai_C} (h : (if c then none else a) = some cfg) : ¬ c ∧ a = some cfg := by
  split at h
  · cases h
  · exact ⟨by assumption, h⟩
theorem ai_j_some {pc : Nat} {off : Int} {L : ai_L} {st : List Value} {k : Nat → ai_L → List Value → Option ai_C} {cfg : ai_C} (h : ai_j none pc off L st k = some cfg) : (pc : Int) + off = ((((pc : Int) + off).toNat : Nat) : Int) ∧ k ((pc : Int) + off).toNat L st = some cfg := by
  unfold ai_j at h
  obtain ⟨h1, h2⟩ := ai_if_some h
  exact ⟨(Int.toNat_of_nonneg h1).symm, h2⟩
theorem ai_isI_of {v : Option Value} (h : ai_isI v = true) : ∃ x, v = some (.int x) := by
  unfold ai_isI at h
  split at h
  · exact ⟨_, rfl⟩
  · cases h
theorem ai_isJ_of {v : Option Value} (h : ai_isJ v = true) : ∃ x, v = some (.long x) := by
  unfold ai_isJ at h
  split at h
  · exact ⟨_, rfl⟩
  · cases h
theorem ai_isA_of {v : Option Value} (h : ai_isA v = true) : ∃ x, v = some (.ref x) := by
  unfold ai_isA at h
  split at h
  · exact ⟨_, rfl⟩
  · cases h
variable {p : Program} {l : Launch} {e : Env} {R : Room} {s : State} {m : MethodId} {args : Array Value} {below : List Frame} {meth : Method} {c : Code} {H : Heap} {locs : List Loc} {cells slots : Nat} {Q : State → Prop}
variable {cc : ByteArray} {pc nL : Nat} {ls : Array Slot} {ad : Nat → Nat} {L : ai_L} {st : List Value} {cfg : ai_C} {k : Nat → ai_L → List Value → Option ai_C}
set_option maxHeartbeats 4000000 in
theorem ai_p_sim (hx : p.tables.exec = Jvm.exec) (hb : c.code = cc) {i : Instr} (hdg : decode cc pc = .ok (i, ai_len i)) (hl : ai_H ad ls nL L)
    (hk : ∀ (pc' : Nat) (L' : ai_L) (st' : List Value), k pc' L' st' = some cfg → ∀ ls' : Array Slot, ai_H ad ls' nL L' → W p l e R s m args below meth c H locs cells slots Q (F0 m pc' ls' (st'.map (ai_cv ad))))
    (h : ai_p none i pc L st k = some cfg) : W p l e R s m args below meth c H locs cells slots Q (F0 m pc ls (st.map (ai_cv ad))) := by
  cases i <;> first | (exfalso; simp only [ai_p, reduceCtorEq] at h; done) | skip
  case iconst j => exact lv_iconst hx hb hdg rfl (hk _ _ _ h _ hl)
  case bipush j => exact lv_bipush hx hb hdg rfl (hk _ _ _ h _ hl)
  case sipush j => exact lv_sipush hx hb hdg rfl (hk _ _ _ h _ hl)
  case lconst j => exact lv_lconst hx hb hdg rfl (hk _ _ _ h _ hl)
  case iload j =>
    obtain ⟨h1, h⟩ := ai_if_some (by simpa only [ai_p] using h)
    obtain ⟨x, e⟩ := ai_isI_of h1
    simp only [ai_ld, e] at h
    exact lv_iload hx hb hdg (hl.2.2.2 _ _ e) (hk _ _ _ h _ hl)
  case iload_n j =>
    obtain ⟨h1, h⟩ := ai_if_some (by simpa only [ai_p] using h)
    obtain ⟨x, e⟩ := ai_isI_of h1
    simp only [ai_ld, e] at h
    exact lv_iload_n hx hb hdg rfl (hl.2.2.2 _ _ e) (hk _ _ _ h _ hl)
  case lload j =>
    obtain ⟨h1, h⟩ := ai_if_some (by simpa only [ai_p] using h)
    obtain ⟨x, e⟩ := ai_isJ_of h1
    simp only [ai_ld, e] at h
    exact lv_lload hx hb hdg (hl.2.2.2 _ _ e) (hk _ _ _ h _ hl)
  case lload_n j =>
    obtain ⟨h1, h⟩ := ai_if_some (by simpa only [ai_p] using h)
    obtain ⟨x, e⟩ := ai_isJ_of h1
    simp only [ai_ld, e] at h
    exact lv_lload_n hx hb hdg rfl (hl.2.2.2 _ _ e) (hk _ _ _ h _ hl)
  case aload j =>
    obtain ⟨h1, h⟩ := ai_if_some (by simpa only [ai_p] using h)
    obtain ⟨x, e⟩ := ai_isA_of h1
    simp only [ai_ld, e] at h
    exact lv_aload hx hb hdg (hl.2.2.2 _ _ e) (hk _ _ _ h _ hl)
  case aload_n j =>
    obtain ⟨h1, h⟩ := ai_if_some (by simpa only [ai_p] using h)
    obtain ⟨x, e⟩ := ai_isA_of h1
    simp only [ai_ld, e] at h
    exact lv_aload_n hx hb hdg rfl (hl.2.2.2 _ _ e) (hk _ _ _ h _ hl)
  case istore j =>
    obtain ⟨h1, h⟩ := ai_if_some (by simpa only [ai_p] using h)
    obtain ⟨x, st, rfl, h⟩ := ai_1i_some h
    exact lv_istore hx hb hdg hl.has (by rw [← hl.1]; exact h1) rfl (fun ls' h' => hk _ _ _ h _ (hl.st1 (v := .int x) h'))
  case istore_n j =>
    obtain ⟨h1, h⟩ := ai_if_some (by simpa only [ai_p] using h)
    obtain ⟨x, st, rfl, h⟩ := ai_1i_some h
    exact lv_istore_n hx hb hdg rfl hl.has (by rw [← hl.1]; exact h1) rfl (fun ls' h' => hk _ _ _ h _ (hl.st1 (v := .int x) h'))
  case lstore j =>
    obtain ⟨h1, h⟩ := ai_if_some (by simpa only [ai_p] using h)
    split at h
    · exact lv_lstore hx hb hdg hl.has (by rw [← hl.1]; exact h1) rfl (fun ls' h' => hk _ _ _ h _ (hl.st2 (v := .long _) h'))
    · cases h
  case lstore_n j =>
    obtain ⟨h1, h⟩ := ai_if_some (by simpa only [ai_p] using h)
    split at h
    · exact lv_lstore_n hx hb hdg rfl hl.has (by rw [← hl.1]; exact h1) rfl (fun ls' h' => hk _ _ _ h _ (hl.st2 (v := .long _) h'))
    · cases h
  case astore j =>
    obtain ⟨h1, h⟩ := ai_if_some (by simpa only [ai_p] using h)
    split at h
    · exact lv_astore hx hb hdg hl.has (by rw [← hl.1]; exact h1) rfl (fun ls' h' => hk _ _ _ h _ (hl.st1 (v := .ref _) h'))
    · cases h
  case astore_n j =>
    obtain ⟨h1, h⟩ := ai_if_some (by simpa only [ai_p] using h)
    split at h
    · exact lv_astore_n hx hb hdg rfl hl.has (by rw [← hl.1]; exact h1) rfl (fun ls' h' => hk _ _ _ h _ (hl.st1 (v := .ref _) h'))
    · cases h
  case iinc j n =>
    simp only [ai_p] at h
    split at h
    · rename_i x e
      obtain ⟨h1, h⟩ := ai_if_some h
      obtain ⟨q, hq⟩ := List.getElem?_of_mem (ai_as_mem (ad := ad) e)
      exact lv_iinc hx hb hdg hl.has (k := q) hq rfl (by rw [← hl.1]; exact h1) rfl (fun ls' h' => hk _ _ _ h _ (hl.st1 (v := .int _) h'))
    · cases h
  case iadd =>
    obtain ⟨x, y, st, rfl, h⟩ := ai_2i_some (by simpa only [ai_p] using h)
    exact lv_iadd hx hb hdg (hk _ _ _ h _ hl)
  case isub =>
    obtain ⟨x, y, st, rfl, h⟩ := ai_2i_some (by simpa only [ai_p] using h)
    exact lv_isub hx hb hdg (hk _ _ _ h _ hl)
  case imul =>
    obtain ⟨x, y, st, rfl, h⟩ := ai_2i_some (by simpa only [ai_p] using h)
    exact lv_imul hx hb hdg (hk _ _ _ h _ hl)
  case iand =>
    obtain ⟨x, y, st, rfl, h⟩ := ai_2i_some (by simpa only [ai_p] using h)
    exact lv_iand hx hb hdg (hk _ _ _ h _ hl)
  case ior =>
    obtain ⟨x, y, st, rfl, h⟩ := ai_2i_some (by simpa only [ai_p] using h)
    exact lv_ior hx hb hdg (hk _ _ _ h _ hl)
  case ixor =>
    obtain ⟨x, y, st, rfl, h⟩ := ai_2i_some (by simpa only [ai_p] using h)
    exact lv_ixor hx hb hdg (hk _ _ _ h _ hl)
  case ishl =>
    obtain ⟨x, y, st, rfl, h⟩ := ai_2i_some (by simpa only [ai_p] using h)
    exact lv_ishl hx hb hdg (hk _ _ _ h _ hl)
  case ishr =>
    obtain ⟨x, y, st, rfl, h⟩ := ai_2i_some (by simpa only [ai_p] using h)
    exact lv_ishr hx hb hdg (hk _ _ _ h _ hl)
  case iushr =>
    obtain ⟨x, y, st, rfl, h⟩ := ai_2i_some (by simpa only [ai_p] using h)
    exact lv_iushr hx hb hdg rfl (hk _ _ _ h _ hl)
  case idiv =>
    obtain ⟨x, y, st, rfl, h⟩ := ai_2i_some (by simpa only [ai_p] using h)
    obtain ⟨h1, h⟩ := ai_ifn_some h
    exact lv_idiv hx hb hdg h1 (hk _ _ _ h _ hl)
  case irem =>
    obtain ⟨x, y, st, rfl, h⟩ := ai_2i_some (by simpa only [ai_p] using h)
    obtain ⟨h1, h⟩ := ai_ifn_some h
    exact lv_irem hx hb hdg h1 (hk _ _ _ h _ hl)
  case ineg =>
    obtain ⟨x, st, rfl, h⟩ := ai_1i_some (by simpa only [ai_p] using h)
    exact lv_ineg hx hb hdg (hk _ _ _ h _ hl)
  case i2l =>
    obtain ⟨x, st, rfl, h⟩ := ai_1i_some (by simpa only [ai_p] using h)
    exact lv_i2l hx hb hdg rfl (hk _ _ _ h _ hl)
  case i2b =>
    obtain ⟨x, st, rfl, h⟩ := ai_1i_some (by simpa only [ai_p] using h)
    exact lv_i2b hx hb hdg rfl (hk _ _ _ h _ hl)
  case ladd =>
    obtain ⟨x, y, st, rfl, h⟩ := ai_2l_some (by simpa only [ai_p] using h)
    exact lv_ladd hx hb hdg (hk _ _ _ h _ hl)
  case lmul =>
    obtain ⟨x, y, st, rfl, h⟩ := ai_2l_some (by simpa only [ai_p] using h)
    exact lv_lmul hx hb hdg (hk _ _ _ h _ hl)
  case lor =>
    obtain ⟨x, y, st, rfl, h⟩ := ai_2l_some (by simpa only [ai_p] using h)
    exact lv_lor hx hb hdg (hk _ _ _ h _ hl)
  case lcmp =>
    obtain ⟨x, y, st, rfl, h⟩ := ai_2l_some (by simpa only [ai_p] using h)
    exact W.lcmp hx hb hdg (hk _ _ _ h _ hl)
  case ldiv =>
    obtain ⟨x, y, st, rfl, h⟩ := ai_2l_some (by simpa only [ai_p] using h)
    obtain ⟨h1, h⟩ := ai_ifn_some h
    exact lv_ldiv hx hb hdg h1 (hk _ _ _ h _ hl)
  case lrem =>
    obtain ⟨x, y, st, rfl, h⟩ := ai_2l_some (by simpa only [ai_p] using h)
    obtain ⟨h1, h⟩ := ai_ifn_some h
    exact lv_lrem hx hb hdg h1 (hk _ _ _ h _ hl)
  case lshl =>
    simp only [ai_p] at h
    split at h
    · exact lv_lshl hx hb hdg rfl (hk _ _ _ h _ hl)
    · cases h
  case dup =>
    simp only [ai_p] at h
    split at h
    · obtain ⟨h1, h⟩ := ai_if_some h
      exact lv_dup hx hb hdg (by rw [ai_cv_cat]; exact h1) (hk _ _ _ h _ hl)
    · cases h
  case dup2 =>
    simp only [ai_p] at h
    split at h
    · obtain ⟨h1, h⟩ := ai_if_some h
      exact lv_dup2_11 hx hb hdg (by rw [ai_cv_cat]; exact h1.1) (by rw [ai_cv_cat]; exact h1.2) (hk _ _ _ h _ hl)
    · cases h
  case pop =>
    simp only [ai_p] at h
    split at h
    · obtain ⟨h1, h⟩ := ai_if_some h
      exact lv_pop hx hb hdg (by rw [ai_cv_cat]; exact h1) (hk _ _ _ h _ hl)
    · cases h
  case goto off =>
    obtain ⟨h1, h⟩ := ai_j_some (by simpa only [ai_p] using h)
    exact lv_goto hx hb hdg h1 (hk _ _ _ h _ hl)
  case ifCond cn off =>
    obtain ⟨h1, h⟩ := ai_if_some (by simpa only [ai_p] using h)
    obtain ⟨x, st, rfl, h⟩ := ai_1i_some h
    have ht : (pc : Int) + off = ((((pc : Int) + off).toNat : Nat) : Int) := (Int.toNat_of_nonneg h1).symm
    cases cn
    · exact lv_if_eq hx hb hdg ht (fun c1 => hk _ _ _ (((if_pos c1).symm.trans h)) _ hl) (fun c1 => hk _ _ _ (((if_neg c1).symm.trans h)) _ hl)
    · exact lv_if_ne hx hb hdg ht (fun c1 => hk _ _ _ (((if_neg c1).symm.trans h)) _ hl) (fun c1 => hk _ _ _ (((if_pos c1).symm.trans h)) _ hl)
    · exact lv_if_lt hx hb hdg ht (fun c1 => hk _ _ _ (((if_pos c1).symm.trans h)) _ hl) (fun c1 => hk _ _ _ (((if_neg c1).symm.trans h)) _ hl)
    · exact lv_if_ge hx hb hdg ht (fun c1 => hk _ _ _ (((if_pos c1).symm.trans h)) _ hl) (fun c1 => hk _ _ _ (((if_neg c1).symm.trans h)) _ hl)
    · exact lv_if_gt hx hb hdg ht (fun c1 => hk _ _ _ (((if_pos c1).symm.trans h)) _ hl) (fun c1 => hk _ _ _ (((if_neg c1).symm.trans h)) _ hl)
    · exact lv_if_le hx hb hdg ht (fun c1 => hk _ _ _ (((if_pos c1).symm.trans h)) _ hl) (fun c1 => hk _ _ _ (((if_neg c1).symm.trans h)) _ hl)
  case if_icmp cn off =>
    obtain ⟨h1, h⟩ := ai_if_some (by simpa only [ai_p] using h)
    obtain ⟨x, y, st, rfl, h⟩ := ai_2i_some h
    have ht : (pc : Int) + off = ((((pc : Int) + off).toNat : Nat) : Int) := (Int.toNat_of_nonneg h1).symm
    cases cn
    · exact lv_icmp_eq hx hb hdg ht (fun c1 => hk _ _ _ (((if_pos c1).symm.trans h)) _ hl) (fun c1 => hk _ _ _ (((if_neg c1).symm.trans h)) _ hl)
    · exact lv_icmp_ne hx hb hdg ht (fun c1 => hk _ _ _ (((if_neg c1).symm.trans h)) _ hl) (fun c1 => hk _ _ _ (((if_pos c1).symm.trans h)) _ hl)
    · exact lv_icmp_lt hx hb hdg ht (fun c1 => hk _ _ _ (((if_pos c1).symm.trans h)) _ hl) (fun c1 => hk _ _ _ (((if_neg c1).symm.trans h)) _ hl)
    · exact lv_icmp_ge hx hb hdg ht (fun c1 => hk _ _ _ (((if_pos c1).symm.trans h)) _ hl) (fun c1 => hk _ _ _ (((if_neg c1).symm.trans h)) _ hl)
    · exact lv_icmp_gt hx hb hdg ht (fun c1 => hk _ _ _ (((if_pos c1).symm.trans h)) _ hl) (fun c1 => hk _ _ _ (((if_neg c1).symm.trans h)) _ hl)
    · exact lv_icmp_le hx hb hdg ht (fun c1 => hk _ _ _ (((if_pos c1).symm.trans h)) _ hl) (fun c1 => hk _ _ _ (((if_neg c1).symm.trans h)) _ hl)
end AIP
