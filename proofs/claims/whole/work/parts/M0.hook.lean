/-! THE LIBRARY'S OWN: where it is called -/
section HKS
def notL : Instr → Bool
  | .ldc _ => false
  | .invokevirtual _ => false
  | .invokestatic _ => false
  | _ => true
def NL (r : Decoder Instr) : Prop := ∀ (cc : ByteArray) (s : Nat) (i : Instr) (s' : Nat), r cc s = .ok (i, s') → notL i = true
theorem NL_pure {i : Instr} (h : notL i = true) : NL (Pure.pure i) := by
  intro cc s j s' q
  have e : (Pure.pure i : Decoder Instr) cc s = .ok (i, s) := rfl
  rw [e] at q
  cases q
  exact h
theorem NL_throw {e : DecodeError} : NL (throw e) := by
  intro cc s j s' q
  have e2 : (throw e : Decoder Instr) cc s = .error e := rfl
  rw [e2] at q
  cases q
theorem bind_ok {α β : Type} {r : Decoder α} {f : α → Decoder β} {cc : ByteArray} {s : Nat} {z : β × Nat} (q : (r >>= f) cc s = .ok z) : ∃ a s1, r cc s = .ok (a, s1) ∧ f a cc s1 = .ok z := by
  cases hr : r cc s with
  | error e =>
    have e2 : (r >>= f) cc s = .error e := by
      show Except.bind (r cc s) _ = _
      rw [hr]
      rfl
    rw [e2] at q
    cases q
  | ok v =>
    obtain ⟨a, s1⟩ := v
    have e2 : (r >>= f) cc s = f a cc s1 := by
      show Except.bind (r cc s) _ = _
      rw [hr]
      rfl
    rw [e2] at q
    exact ⟨a, s1, rfl, q⟩
theorem NL_bind {α : Type} {r : Decoder α} {f : α → Decoder Instr} (h : ∀ a, NL (f a)) : NL (r >>= f) := by
  intro cc s i s' q
  obtain ⟨a, s1, -, h2⟩ := bind_ok q
  exact h a cc s1 i s' h2
theorem NL_ite {c : Prop} [Decidable c] {a b : Decoder Instr} (ha : NL a) (hb : NL b) : NL (if c then a else b) := by
  split
  · exact ha
  · exact hb
theorem NL_tsw {pc : Nat} : NL (Decoder.tableswitch pc) := by
  unfold Decoder.tableswitch
  repeat (first | exact NL_pure rfl | exact NL_throw | refine NL_bind (fun _ => ?_) | refine NL_ite ?_ ?_)
theorem NL_lsw {pc : Nat} : NL (Decoder.lookupswitch pc) := by
  unfold Decoder.lookupswitch
  repeat (first | exact NL_pure rfl | exact NL_throw | refine NL_bind (fun _ => ?_) | refine NL_ite ?_ ?_)
theorem NL_iif {pc : Nat} : NL (Decoder.invokeinterface pc) := by
  unfold Decoder.invokeinterface
  repeat (first | exact NL_pure rfl | exact NL_throw | refine NL_bind (fun _ => ?_) | refine NL_ite ?_ ?_)
theorem NL_idy {pc : Nat} : NL (Decoder.invokedynamic pc) := by
  unfold Decoder.invokedynamic
  repeat (first | exact NL_pure rfl | exact NL_throw | refine NL_bind (fun _ => ?_) | refine NL_ite ?_ ?_)
theorem NL_mna {pc : Nat} : NL (Decoder.multianewarray pc) := by
  unfold Decoder.multianewarray
  repeat (first | exact NL_pure rfl | exact NL_throw | refine NL_bind (fun _ => ?_) | refine NL_ite ?_ ?_)
theorem NL_nar {pc : Nat} : NL (Decoder.newarray pc) := by
  unfold Decoder.newarray
  refine NL_bind (fun x => ?_)
  split <;> first | exact NL_pure rfl | exact NL_throw
theorem NL_wid {pc : Nat} : NL (Decoder.wide pc) := by
  unfold Decoder.wide
  refine NL_bind (fun x => ?_)
  split <;> first | exact NL_throw | exact NL_bind (fun _ => NL_pure rfl) | exact NL_bind (fun _ => NL_bind (fun _ => NL_pure rfl))
theorem u1_ok {cc : ByteArray} {s : Nat} {z : Nat × Nat} (q : (Reader.u1 : Decoder Nat) cc s = .ok z) : ∃ h : s < cc.size, z.1 = (cc[s]).toNat := by
  unfold Reader.u1 at q
  obtain ⟨all, s1, r1, q⟩ := bind_ok q
  have r1' : (Except.ok (cc, s) : Except DecodeError (ByteArray × Nat)) = Except.ok (all, s1) := r1
  cases r1'
  obtain ⟨p, s2, r2, q⟩ := bind_ok q
  have r2' : (Except.ok (s, s) : Except DecodeError (Nat × Nat)) = Except.ok (p, s2) := r2
  cases r2'
  split at q
  · rename_i h
    obtain ⟨u, s3, r3, q⟩ := bind_ok q
    have q' : (Except.ok ((cc[s]).toNat, s3) : Except DecodeError (Nat × Nat)) = Except.ok z := q
    cases q'
    exact ⟨h, rfl⟩
  · have q' : (Except.error (HasTruncated.truncated s) : Except DecodeError (Nat × Nat)) = Except.ok z := q
    cases q'
set_option maxHeartbeats 8000000 in
set_option maxRecDepth 100000 in
theorem dec_op {cc : ByteArray} {pc : Nat} {i : Instr} {len : Nat} (h : decode cc pc = .ok (i, len)) (hn : notL i = false) : ∃ h : pc < cc.size, (cc[pc]).toNat = 18 ∨ (cc[pc]).toNat = 182 ∨ (cc[pc]).toNat = 184 := by
  have h1 : ∃ s', (Decoder.instr pc) cc pc = .ok (i, s') := by
    cases hr : (Decoder.instr pc) cc pc with
    | error e =>
      have e2 : decode cc pc = .error e := by
        show Except.bind ((Decoder.instr pc) cc pc) _ = _
        rw [hr]
        rfl
      rw [e2] at h
      cases h
    | ok v =>
      obtain ⟨j, s1⟩ := v
      have e2 : decode cc pc = .ok (j, s1 - pc) := by
        show Except.bind ((Decoder.instr pc) cc pc) _ = _
        rw [hr]
        rfl
      rw [e2] at h
      cases h
      exact ⟨s1, rfl⟩
  obtain ⟨s', h1⟩ := h1
  unfold Decoder.instr at h1
  obtain ⟨x, s1, h2, h3⟩ := bind_ok h1
  obtain ⟨hlt, hx⟩ := u1_ok h2
  dsimp only at hx
  refine ⟨hlt, ?_⟩
  rw [← hx]
  clear hx h2 h1 h
  split at h3
  all_goals first
    | exact Or.inl rfl
    | exact Or.inr (Or.inl rfl)
    | exact Or.inr (Or.inr rfl)
    | exact (Bool.false_ne_true (hn.symm.trans (NL_pure rfl _ _ _ _ h3))).elim
    | exact (Bool.false_ne_true (hn.symm.trans (NL_throw _ _ _ _ h3))).elim
    | exact (Bool.false_ne_true (hn.symm.trans ((NL_bind (fun _ => NL_pure rfl)) _ _ _ _ h3))).elim
    | exact (Bool.false_ne_true (hn.symm.trans ((NL_bind (fun _ => NL_bind (fun _ => NL_pure rfl))) _ _ _ _ h3))).elim
    | exact (Bool.false_ne_true (hn.symm.trans (NL_tsw _ _ _ _ h3))).elim
    | exact (Bool.false_ne_true (hn.symm.trans (NL_lsw _ _ _ _ h3))).elim
    | exact (Bool.false_ne_true (hn.symm.trans (NL_iif _ _ _ _ h3))).elim
    | exact (Bool.false_ne_true (hn.symm.trans (NL_idy _ _ _ _ h3))).elim
    | exact (Bool.false_ne_true (hn.symm.trans (NL_mna _ _ _ _ h3))).elim
    | exact (Bool.false_ne_true (hn.symm.trans (NL_nar _ _ _ _ h3))).elim
    | exact (Bool.false_ne_true (hn.symm.trans (NL_wid _ _ _ _ h3))).elim
end HKS
