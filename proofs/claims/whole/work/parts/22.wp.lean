/-! WHAT THE INTERPRETER COMES TO, as a proposition computed instruction by instruction: no fuel -/
section AWP
variable {α β : Type} {T : ai_T} {G : ai_G}
/-- one instruction, with two kinds of answers -/
theorem ai_cn_rel (Rl : α → β → Prop) {c : Jvm.ClassFile.Cond} {x y : Int32} {a a' : α} {b b' : β} (h1 : Rl a b) (h2 : Rl a' b') : Rl (ai_cn c x y a a') (ai_cn c x y b b') := by
  cases c <;> simp only [ai_cn] <;> (repeat' split) <;> first | exact h1 | exact h2 | contradiction
set_option maxHeartbeats 4000000 in
theorem ai_p_rel (Rl : α → β → Prop) {ba : α} {bb : β} (hb : Rl ba bb) {ka : Nat → ai_L → List Value → α} {kb : Nat → ai_L → List Value → β} (hk : ∀ pc L st, Rl (ka pc L st) (kb pc L st)) (i : Instr) (pc : Nat) (L : ai_L) (st : List Value) : Rl (ai_p ba i pc L st ka) (ai_p bb i pc L st kb) := by
  cases i <;> simp only [ai_p, ai_1i, ai_2i, ai_2l, ai_j, ai_ld] <;> (repeat' split) <;> first | exact hb | exact hk _ _ _ | exact ai_cn_rel Rl (hk _ _ _) (hk _ _ _) | contradiction | (exfalso; simp_all; done)
theorem ai_sw_rel (Rl : α → β → Prop) {ba : α} {bb : β} (hb : Rl ba bb) {ka : Nat → ai_L → List Value → α} {kb : Nat → ai_L → List Value → β} (hk : ∀ pc L st, Rl (ka pc L st) (kb pc L st)) (i : Instr) (pc : Nat) (L : ai_L) (st : List Value) : Rl (ai_sw ba i pc L st ka) (ai_sw bb i pc L st kb) := by
  cases i <;> simp only [ai_sw, ai_1i, ai_j] <;> (repeat' split) <;> first | exact hb | exact hk _ _ _ | contradiction | (exfalso; simp_all; done)
set_option maxHeartbeats 4000000 in
theorem ai_m_rel (Rl : α → β → Prop) {ba sa : α} {bb sb : β} (hb : Rl ba bb) (hs : Rl sa sb) {ka : Nat → ai_L → List Value → Nat → Nat → ai_M → α} {kb : Nat → ai_L → List Value → Nat → Nat → ai_M → β} (hk : ∀ pc L st n sl M, Rl (ka pc L st n sl M) (kb pc L st n sl M)) (c : Nat) (ini : Bool) (i : Instr) (pc : Nat) (L : ai_L) (st : List Value) (n sl : Nat) (M : ai_M) : Rl (ai_m ba sa T G c ini i pc L st n sl M ka) (ai_m bb sb T G c ini i pc L st n sl M kb) := by
  cases i <;> simp only [ai_m] <;> (repeat' split) <;> first | exact hb | exact hs | exact hk _ _ _ _ _ _ | contradiction | (exfalso; simp_all; done)
set_option maxHeartbeats 4000000 in
theorem ai_c_rel (Rl : α → β → Prop) {ba sa : α} {bb sb : β} (hb : Rl ba bb) (hs : Rl sa sb) {ka : Nat → ai_L → List Value → Nat → Nat → ai_M → α} {kb : Nat → ai_L → List Value → Nat → Nat → ai_M → β} (hk : ∀ pc L st n sl M, Rl (ka pc L st n sl M) (kb pc L st n sl M)) {ga : Nat → Nat → Nat → α} {gb : Nat → Nat → Nat → β} (hg : ∀ mj na kd, Rl (ga mj na kd) (gb mj na kd)) (c : Nat) (i : Instr) (pc : Nat) (L : ai_L) (st : List Value) (n sl : Nat) (M : ai_M) : Rl (ai_c ba sa T G c i pc L st n sl M ga ka) (ai_c bb sb T G c i pc L st n sl M gb kb) := by
  cases i <;> simp only [ai_c, ai_cp] <;> (repeat' split) <;> first | exact hb | exact hs | exact hk _ _ _ _ _ _ | exact hg _ _ _ | contradiction | (exfalso; simp_all; done)
/-- more fuel does no harm -/
theorem ai_run_more : ∀ (f d mi pc : Nat) (L : ai_L) (st : List Value) (n sl : Nat) (M : ai_M) (z : ai_C), ai_run T G f d mi pc L st n sl M = some z → ai_run T G (f + 1) d mi pc L st n sl M = some z := by
  intro f
  induction f with
  | zero =>
    intro d mi pc L st n sl M z h
    cases h
  | succ f ih =>
    intro d mi pc L st n sl M z h
    have Rg : ∀ mj na kd pc L st n sl M d', ∀ z, ai_go T mj na kd pc L st n sl M (fun mj vs n sl M => ai_run T G f d' mj 0 (ai_en vs (ai_mx T mj)) [] n sl M) (fun pc L st n sl M => ai_run T G f (d' + 1) mi pc L st n sl M) = some z → ai_go T mj na kd pc L st n sl M (fun mj vs n sl M => ai_run T G (f + 1) d' mj 0 (ai_en vs (ai_mx T mj)) [] n sl M) (fun pc L st n sl M => ai_run T G (f + 1) (d' + 1) mi pc L st n sl M) = some z := by
      intro mj na kd pc L st n sl M d' z h
      unfold ai_go at h ⊢
      dsimp only at h ⊢
      obtain ⟨h0, h⟩ := ai_if_some h
      rw [if_pos h0]
      split at h
      · rename_i hc
        rw [ih _ _ _ _ _ _ _ _ _ hc]
        dsimp only
        split at h
        · rename_i hr
          (try rw [hr])
          exact ih _ _ _ _ _ _ _ _ _ h
        · cases h
      · cases h
    unfold ai_run at h ⊢
    split at h
    · cases h
    · rename_i i len hd
      (try rw [hd])
      (try dsimp only)
      split at h
      · rename_i hc
        (try rw [hc])
        exact ai_sw_rel (fun a b => ∀ z, a = some z → b = some z) (fun z q => q) (fun pc L st z q => ih _ _ _ _ _ _ _ _ z q) i pc L st z h
      · rename_i hc
        (try rw [hc])
        exact h
      · rename_i hc
        (try rw [hc])
        obtain ⟨h0, h⟩ := ai_if_some h
        (try dsimp only)
        rw [if_pos h0]
        exact ai_m_rel (fun a b => ∀ z, a = some z → b = some z) (fun z q => q) (fun z q => q) (fun pc L st n sl M z q => ih _ _ _ _ _ _ _ _ z q) _ _ i pc L st n sl M z h
      · rename_i hc
        (try rw [hc])
        obtain ⟨h0, h⟩ := ai_if_some h
        (try dsimp only)
        rw [if_pos h0]
        split at h
        · cases h
        · exact ai_c_rel (fun a b => ∀ z, a = some z → b = some z) (fun z q => q) (fun z q => q) (fun pc L st n sl M z q => ih _ _ _ _ _ _ _ _ z q) (fun mj na kd => Rg mj na kd _ _ _ _ _ _ _) _ i pc L st n sl M z h
      · rename_i h1 h2 h3 h4
        obtain ⟨h0, h⟩ := ai_if_some h
        · rw [if_pos h0]
          exact ai_p_rel (fun a b => ∀ z, a = some z → b = some z) (fun z q => q) (fun pc L st z q => ih _ _ _ _ _ _ _ _ z q) i pc L st z h
theorem ai_run_le {f g d mi pc : Nat} {L : ai_L} {st : List Value} {n sl : Nat} {M : ai_M} {z : ai_C} (h : ai_run T G f d mi pc L st n sl M = some z) (hg : f ≤ g) : ai_run T G g d mi pc L st n sl M = some z := by
  obtain ⟨k, rfl⟩ := Nat.exists_eq_add_of_le hg
  induction k with
  | zero => exact h
  | succ k ih => exact ai_run_more _ _ _ _ _ _ _ _ _ _ (ih (by omega))
/-- from here on the method comes to its return, hands r to its caller, with the memory as Q says -/
def aw (T : ai_T) (G : ai_G) (d mi pc : Nat) (L : ai_L) (st : List Value) (n sl : Nat) (M : ai_M) (Q : List Value → Nat → Nat → ai_M → Prop) : Prop :=
  ∃ (f : Nat) (z : ai_C) (r : List Value), ai_run T G f d mi pc L st n sl M = some z ∧ ai_rs (ai_rt T mi) (ai_dec T mi z.1) z.2.2.1 = some r ∧ Q r z.2.2.2.1 z.2.2.2.2.1 z.2.2.2.2.2
/-- a call: the callee, then the rest -/
def aw_go (T : ai_T) (G : ai_G) (d mi mj na kd pc : Nat) (L : ai_L) (st : List Value) (n sl : Nat) (M : ai_M) (Q : List Value → Nat → Nat → ai_M → Prop) : Prop :=
  if (if kd = 1 then na else na + 1) ≤ st.length ∧ ai_sm (st.drop (if kd = 1 then na else na + 1)) ≤ 8 ∧ (ai_ar (st.take (if kd = 1 then na else na + 1)).reverse).length ≤ ai_mx T mj ∧ ai_mx T mj ≤ 41 then aw T G d mj 0 (ai_en (st.take (if kd = 1 then na else na + 1)).reverse (ai_mx T mj)) [] n sl M (fun r n sl M => aw T G (d + 1) mi (pc + 3) L (r ++ st.drop (if kd = 1 then na else na + 1)) n sl M Q) else False
/-- one instruction, as a proposition -/
def aw_st (T : ai_T) (G : ai_G) (d mi : Nat) (i : Instr) (len pc : Nat) (L : ai_L) (st : List Value) (n sl : Nat) (M : ai_M) (Q : List Value → Nat → Nat → ai_M → Prop) : Prop :=
  match ai_cls i with
  | 1 => ai_sw False i pc L st (fun pc L st => aw T G d mi pc L st n sl M Q)
  | 2 => ∃ r, ai_rs (ai_rt T mi) (some (i, len)) st = some r ∧ Q r n sl M
  | 3 => if len = ai_len i then ai_m False False T G (ai_own T mi) (ai_ini T mi) i pc L st n sl M (fun pc L st n sl M => aw T G d mi pc L st n sl M Q) else False
  | 4 => if len = ai_len i then (match d with
    | 0 => False
    | d' + 1 => ai_c False False T G (ai_own T mi) i pc L st n sl M (fun mj na kd => aw_go T G d' mi mj na kd pc L st n sl M Q) (fun pc L st n sl M => aw T G (d' + 1) mi pc L st n sl M Q)) else False
  | _ => if len = ai_len i then ai_p False i pc L st (fun pc L st => aw T G d mi pc L st n sl M Q) else False
theorem aw_pw {i : Instr} {pc : Nat} {L : ai_L} {st : List Value} (k : Nat → Nat → ai_L → List Value → Option ai_C) (f : Nat) : ai_p (fun _ => none) i pc L st (fun pc L st f => k f pc L st) f = ai_p none i pc L st (k f) := ai_p_rel (fun (a : Nat → Option ai_C) b => a f = b) rfl (fun _ _ _ => rfl) i pc L st
theorem aw_sww {i : Instr} {pc : Nat} {L : ai_L} {st : List Value} (k : Nat → Nat → ai_L → List Value → Option ai_C) (f : Nat) : ai_sw (fun _ => none) i pc L st (fun pc L st f => k f pc L st) f = ai_sw none i pc L st (k f) := ai_sw_rel (fun (a : Nat → Option ai_C) b => a f = b) rfl (fun _ _ _ => rfl) i pc L st
theorem aw_mw {c : Nat} {ini : Bool} {i : Instr} {pc : Nat} {L : ai_L} {st : List Value} {n sl : Nat} {M : ai_M} (z : Option ai_C) (k : Nat → Nat → ai_L → List Value → Nat → Nat → ai_M → Option ai_C) (f : Nat) : ai_m (fun _ => none) (fun _ => z) T G c ini i pc L st n sl M (fun pc L st n sl M f => k f pc L st n sl M) f = ai_m none z T G c ini i pc L st n sl M (k f) := ai_m_rel (fun (a : Nat → Option ai_C) b => a f = b) rfl rfl (fun _ _ _ _ _ _ => rfl) c ini i pc L st n sl M
theorem aw_cw {c : Nat} {i : Instr} {pc : Nat} {L : ai_L} {st : List Value} {n sl : Nat} {M : ai_M} (z : Option ai_C) (g : Nat → Nat → Nat → Nat → Option ai_C) (k : Nat → Nat → ai_L → List Value → Nat → Nat → ai_M → Option ai_C) (f : Nat) : ai_c (fun _ => none) (fun _ => z) T G c i pc L st n sl M (fun mj na kd f => g f mj na kd) (fun pc L st n sl M f => k f pc L st n sl M) f = ai_c none z T G c i pc L st n sl M (g f) (k f) := ai_c_rel (fun (a : Nat → Option ai_C) b => a f = b) rfl rfl (fun _ _ _ _ _ _ => rfl) (fun _ _ _ => rfl) c i pc L st n sl M
/-- the call, with fuel and without -/
theorem aw_go_iff {d mi mj na kd pc : Nat} {L : ai_L} {st : List Value} {n sl : Nat} {M : ai_M} {Q : List Value → Nat → Nat → ai_M → Prop} : (∃ f, ∃ (z : ai_C) (r : List Value), ai_go T mj na kd pc L st n sl M (fun mj vs n sl M => ai_run T G f d mj 0 (ai_en vs (ai_mx T mj)) [] n sl M) (fun pc L st n sl M => ai_run T G f (d + 1) mi pc L st n sl M) = some z ∧ ai_rs (ai_rt T mi) (ai_dec T mi z.1) z.2.2.1 = some r ∧ Q r z.2.2.2.1 z.2.2.2.2.1 z.2.2.2.2.2) ↔ aw_go T G d mi mj na kd pc L st n sl M Q := by
  unfold aw_go ai_go
  dsimp only
  generalize (if kd = 1 then na else na + 1) = nn
  constructor
  · rintro ⟨f, z, r, h, hr, hq⟩
    obtain ⟨h0, h⟩ := ai_if_some h
    rw [if_pos h0]
    split at h
    · rename_i pc1 L1 st1 n1 sl1 M1 hc
      split at h
      · rename_i r1 hr1
        exact ⟨f, _, r1, hc, hr1, f, z, r, h, hr, hq⟩
      · cases h
    · cases h
  · intro h
    split at h
    · rename_i h0
      obtain ⟨f1, ⟨pc1, L1, st1, n1, sl1, M1⟩, r1, hc, hr1, f2, z, r, h2, hr, hq⟩ := h
      refine ⟨max f1 f2, z, r, ?_, hr, hq⟩
      rw [if_pos h0, ai_run_le hc (Nat.le_max_left _ _)]
      dsimp only at hr1 h2 ⊢
      rw [hr1]
      exact ai_run_le h2 (Nat.le_max_right _ _)
    · cases h
theorem aw_rs_cls {rt : Option FieldType} {i : Instr} {len : Nat} {st r : List Value} (hc : ai_cls i ≠ 2) (h : ai_rs rt (some (i, len)) st = some r) : False := by
  unfold ai_rs at h
  split at h
  · rename_i h1; cases h1; exact hc rfl
  · rename_i h1; cases h1; exact hc rfl
  · rename_i h1; cases h1; exact hc rfl
  · rename_i h1; cases h1; exact hc rfl
  · cases h
set_option maxHeartbeats 4000000 in
/-- WHERE AN INSTRUCTION STANDS, what it comes to is what the instruction says -/
theorem aw_eq {d mi pc : Nat} {L : ai_L} {st : List Value} {n sl : Nat} {M : ai_M} {Q : List Value → Nat → Nat → ai_M → Prop} {i : Instr} {len : Nat} (hd : ai_dec T mi pc = some (i, len)) : aw T G d mi pc L st n sl M Q = aw_st T G d mi i len pc L st n sl M Q := by
  apply propext
  have e0 : aw T G d mi pc L st n sl M Q ↔ ∃ f, ∃ (z : ai_C) (r : List Value), ai_run T G (f + 1) d mi pc L st n sl M = some z ∧ ai_rs (ai_rt T mi) (ai_dec T mi z.1) z.2.2.1 = some r ∧ Q r z.2.2.2.1 z.2.2.2.2.1 z.2.2.2.2.2 := by
    constructor
    · rintro ⟨f, z, r, h1, h2⟩
      exact ⟨f, z, r, ai_run_more _ _ _ _ _ _ _ _ _ _ h1, h2⟩
    · rintro ⟨f, z, r, h1, h2⟩
      exact ⟨f + 1, z, r, h1, h2⟩
  rw [e0]
  have hbad : (∃ f : Nat, ∃ (z : ai_C) (r : List Value), (none : Option ai_C) = some z ∧ ai_rs (ai_rt T mi) (ai_dec T mi z.1) z.2.2.1 = some r ∧ Q r z.2.2.2.1 z.2.2.2.2.1 z.2.2.2.2.2) ↔ False := ⟨fun ⟨_, _, _, h, _⟩ => (by cases h), fun h => h.elim⟩
  unfold ai_run aw_st
  rw [hd]
  dsimp only
  generalize hc : ai_cls i = q
  match q, hc with
  | 0, _ =>
    by_cases hl : len = ai_len i
    · simp only [if_pos hl]
      have := ai_p_rel (fun (a : Nat → Option ai_C) (b : Prop) => (∃ f, ∃ (z : ai_C) (r : List Value), a f = some z ∧ ai_rs (ai_rt T mi) (ai_dec T mi z.1) z.2.2.1 = some r ∧ Q r z.2.2.2.1 z.2.2.2.2.1 z.2.2.2.2.2) ↔ b) (ba := fun _ => none) (bb := False) hbad (ka := fun pc L st f => ai_run T G f d mi pc L st n sl M) (kb := fun pc L st => aw T G d mi pc L st n sl M Q) (fun pc L st => Iff.rfl) i pc L st
      simp only [aw_pw (fun f pc L st => ai_run T G f d mi pc L st n sl M)] at this
      exact this
    · simp only [if_neg hl]
      exact hbad
  | 1, _ =>
    have := ai_sw_rel (fun (a : Nat → Option ai_C) (b : Prop) => (∃ f, ∃ (z : ai_C) (r : List Value), a f = some z ∧ ai_rs (ai_rt T mi) (ai_dec T mi z.1) z.2.2.1 = some r ∧ Q r z.2.2.2.1 z.2.2.2.2.1 z.2.2.2.2.2) ↔ b) (ba := fun _ => none) (bb := False) hbad (ka := fun pc L st f => ai_run T G f d mi pc L st n sl M) (kb := fun pc L st => aw T G d mi pc L st n sl M Q) (fun pc L st => Iff.rfl) i pc L st
    simp only [aw_sww (fun f pc L st => ai_run T G f d mi pc L st n sl M)] at this
    exact this
  | 2, _ =>
    constructor
    · rintro ⟨f, z, r, h1, h2, h3⟩
      cases h1
      rw [hd] at h2
      exact ⟨r, h2, h3⟩
    · rintro ⟨r, h2, h3⟩
      exact ⟨0, _, r, rfl, by rw [hd]; exact h2, h3⟩
  | 3, hc =>
    by_cases hl : len = ai_len i
    · simp only [if_pos hl]
      have hstop : (∃ f : Nat, ∃ (z : ai_C) (r : List Value), (some (pc, L, st, n, sl, M) : Option ai_C) = some z ∧ ai_rs (ai_rt T mi) (ai_dec T mi z.1) z.2.2.1 = some r ∧ Q r z.2.2.2.1 z.2.2.2.2.1 z.2.2.2.2.2) ↔ False := by
        refine ⟨?_, fun h => h.elim⟩
        rintro ⟨f, z, r, h1, h2, h3⟩
        cases h1
        rw [hd] at h2
        exact aw_rs_cls (by omega) h2
      have := ai_m_rel (T := T) (G := G) (fun (a : Nat → Option ai_C) (b : Prop) => (∃ f, ∃ (z : ai_C) (r : List Value), a f = some z ∧ ai_rs (ai_rt T mi) (ai_dec T mi z.1) z.2.2.1 = some r ∧ Q r z.2.2.2.1 z.2.2.2.2.1 z.2.2.2.2.2) ↔ b) (ba := fun _ => none) (sa := fun _ => some (pc, L, st, n, sl, M)) (bb := False) (sb := False) hbad hstop (ka := fun pc L st n sl M f => ai_run T G f d mi pc L st n sl M) (kb := fun pc L st n sl M => aw T G d mi pc L st n sl M Q) (fun pc L st n sl M => Iff.rfl) (ai_own T mi) (ai_ini T mi) i pc L st n sl M
      simp only [aw_mw (some (pc, L, st, n, sl, M)) (fun f pc L st n sl M => ai_run T G f d mi pc L st n sl M)] at this
      exact this
    · simp only [if_neg hl]
      exact hbad
  | 4, hc =>
    by_cases hl : len = ai_len i
    · simp only [if_pos hl]
      have hstop : (∃ f : Nat, ∃ (z : ai_C) (r : List Value), (some (pc, L, st, n, sl, M) : Option ai_C) = some z ∧ ai_rs (ai_rt T mi) (ai_dec T mi z.1) z.2.2.1 = some r ∧ Q r z.2.2.2.1 z.2.2.2.2.1 z.2.2.2.2.2) ↔ False := by
        refine ⟨?_, fun h => h.elim⟩
        rintro ⟨f, z, r, h1, h2, h3⟩
        cases h1
        rw [hd] at h2
        exact aw_rs_cls (by omega) h2
      match d with
      | 0 => exact hbad
      | d' + 1 =>
        have := ai_c_rel (T := T) (G := G) (fun (a : Nat → Option ai_C) (b : Prop) => (∃ f, ∃ (z : ai_C) (r : List Value), a f = some z ∧ ai_rs (ai_rt T mi) (ai_dec T mi z.1) z.2.2.1 = some r ∧ Q r z.2.2.2.1 z.2.2.2.2.1 z.2.2.2.2.2) ↔ b) (ba := fun _ => none) (sa := fun _ => some (pc, L, st, n, sl, M)) (bb := False) (sb := False) hbad hstop (ka := fun pc L st n sl M f => ai_run T G f (d' + 1) mi pc L st n sl M) (kb := fun pc L st n sl M => aw T G (d' + 1) mi pc L st n sl M Q) (fun pc L st n sl M => Iff.rfl) (ga := fun mj na kd f => ai_go T mj na kd pc L st n sl M (fun mj vs n sl M => ai_run T G f d' mj 0 (ai_en vs (ai_mx T mj)) [] n sl M) (fun pc L st n sl M => ai_run T G f (d' + 1) mi pc L st n sl M)) (gb := fun mj na kd => aw_go T G d' mi mj na kd pc L st n sl M Q) (fun mj na kd => aw_go_iff) (ai_own T mi) i pc L st n sl M
        simp only [aw_cw (some (pc, L, st, n, sl, M)) (fun f mj na kd => ai_go T mj na kd pc L st n sl M (fun mj vs n sl M => ai_run T G f d' mj 0 (ai_en vs (ai_mx T mj)) [] n sl M) (fun pc L st n sl M => ai_run T G f (d' + 1) mi pc L st n sl M)) (fun f pc L st n sl M => ai_run T G f (d' + 1) mi pc L st n sl M)] at this
        exact this
    · simp only [if_neg hl]
      exact hbad
  | q + 5, _ =>
    by_cases hl : len = ai_len i
    · simp only [if_pos hl]
      have := ai_p_rel (fun (a : Nat → Option ai_C) (b : Prop) => (∃ f, ∃ (z : ai_C) (r : List Value), a f = some z ∧ ai_rs (ai_rt T mi) (ai_dec T mi z.1) z.2.2.1 = some r ∧ Q r z.2.2.2.1 z.2.2.2.2.1 z.2.2.2.2.2) ↔ b) (ba := fun _ => none) (bb := False) hbad (ka := fun pc L st f => ai_run T G f d mi pc L st n sl M) (kb := fun pc L st => aw T G d mi pc L st n sl M Q) (fun pc L st => Iff.rfl) i pc L st
      simp only [aw_pw (fun f pc L st => ai_run T G f d mi pc L st n sl M)] at this
      exact this
    · simp only [if_neg hl]
      exact hbad
theorem aw_imp {d mi pc : Nat} {L : ai_L} {st : List Value} {n sl : Nat} {M : ai_M} {P Q : List Value → Nat → Nat → ai_M → Prop} (h : aw T G d mi pc L st n sl M P) (hq : ∀ r n sl M, P r n sl M → Q r n sl M) : aw T G d mi pc L st n sl M Q := by
  obtain ⟨f, z, r, h1, h2, h3⟩ := h
  exact ⟨f, z, r, h1, h2, hq _ _ _ _ h3⟩
/-- what comes is one: then it may be put in its place -/
theorem aw_det {d mi pc : Nat} {L : ai_L} {st : List Value} {n sl : Nat} {M : ai_M} {r0 : List Value} {n0 sl0 : Nat} {M0 : ai_M} (h : aw T G d mi pc L st n sl M (fun r n sl M => r = r0 ∧ n = n0 ∧ sl = sl0 ∧ M = M0)) (Q : List Value → Nat → Nat → ai_M → Prop) : aw T G d mi pc L st n sl M Q = Q r0 n0 sl0 M0 := by
  apply propext
  obtain ⟨f, z, r, h1, h2, h3, h4, h5, h6⟩ := h
  constructor
  · rintro ⟨f', z', r', g1, g2, g3⟩
    have e1 := ai_run_le h1 (Nat.le_max_left f f')
    have e2 := ai_run_le g1 (Nat.le_max_right f f')
    rw [e1] at e2
    cases e2
    rw [h2] at g2
    cases g2
    rw [h3, h4, h5, h6] at g3
    exact g3
  · intro q
    exact ⟨f, z, r, h1, h2, by rw [h3, h4, h5, h6]; exact q⟩
end AWP
