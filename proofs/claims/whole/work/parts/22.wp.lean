/-! WHAT THE INTERPRETER COMES TO, as a proposition computed instruction by instruction: no fuel -/
section AWP
variable {α β : Type} {T : ai_T} {G : ai_G}
/-- one instruction, with two kinds of answers -/
theorem ai_cn_rel (Rl : α → β → Prop) {c : Jvm.ClassFile.Cond} {x y : Int32} {a a' : α} {b b' : β} (h1 : Rl a b) (h2 : Rl a' b') : Rl (ai_cn c x y a a') (ai_cn c x y b b') := by
  cases c <;> simp only [ai_cn] <;> (repeat' split) <;> first | exact h1 | exact h2 | contradiction
set_option maxHeartbeats 4000000 in
theorem ai_p_rel (Rl : α → β → Prop) {ba : α} {bb : β} (hb : Rl ba bb) {ka : Nat → ai_L → List Value → α} {kb : Nat → ai_L → List Value → β} (hk : ∀ pc L st, Rl (ka pc L st) (kb pc L st)) (i : Instr) (pc : Nat) (L : ai_L) (st : List Value) : Rl (ai_p ba i pc L st ka) (ai_p bb i pc L st kb) := by
  cases i <;> simp only [ai_p, ai_1i, ai_2i, ai_2l, ai_j, ai_ld] <;> (repeat' split) <;> first | exact hb | exact hk _ _ _ | exact ai_cn_rel Rl (hk _ _ _) (hk _ _ _) | contradiction | (exfalso; simp_all; done)
theorem ai_sw_rel (Rl : α → β → Prop) {ba : α} {bb : β} (hb : Rl ba bb) {ka : Nat → ai_L → List Value → α} {kb : Nat → ai_L → List Value → β} (hk : ∀ pc L st, Rl (ka pc L st) (kb pc L st)) (i : Instr) (pc : Nat) (L : ai_L) (st : List Value) : Rl (ai_sw ba i pc L st ka) (ai_sw bb i pc L st kb) := by
  cases i <;> simp only [ai_sw, ai_1i, ai_j] <;> (repeat' split) <;> first | exact hb | exact hk _ _ _ | contradiction | (exfalso; simp_all; done)
set_option maxHeartbeats 4000000 in
theorem ai_m_rel (Rl : α → β → Prop) {ba sa : α} {bb sb : β} (hb : Rl ba bb) (hs : Rl sa sb) {ka : Nat → ai_L → List Value → Nat → Nat → ai_M → α} {kb : Nat → ai_L → List Value → Nat → Nat → ai_M → β} (hk : ∀ pc L st n sl M, Rl (ka pc L st n sl M) (kb pc L st n sl M)) (c : Nat) (ini : Bool) (i : Instr) (pc : Nat) (L : ai_L) (st : List Value) (n sl : Nat) (M : ai_M) : Rl (ai_m ba sa T G c ini i pc L st n sl M ka) (ai_m bb sb T G c ini i pc L st n sl M kb) := by
  cases i <;> simp only [ai_m] <;> (repeat' split) <;> first | exact hb | exact hs | exact hk _ _ _ _ _ _ | contradiction | (exfalso; simp_all; done)
set_option maxHeartbeats 4000000 in
theorem ai_c_rel (Rl : α → β → Prop) {ba sa : α} {bb sb : β} (hb : Rl ba bb) (hs : Rl sa sb) {ka : Nat → ai_L → List Value → Nat → Nat → ai_M → α} {kb : Nat → ai_L → List Value → Nat → Nat → ai_M → β} (hk : ∀ pc L st n sl M, Rl (ka pc L st n sl M) (kb pc L st n sl M)) {ga : Nat → Nat → Nat → α} {gb : Nat → Nat → Nat → β} (hg : ∀ mj na kd, Rl (ga mj na kd) (gb mj na kd)) (c : Nat) (i : Instr) (pc : Nat) (L : ai_L) (st : List Value) (n sl : Nat) (M : ai_M) : Rl (ai_c ba sa T G c i pc L st n sl M ga ka) (ai_c bb sb T G c i pc L st n sl M gb kb) := by
  cases i <;> simp only [ai_c, ai_cp] <;> (repeat' split) <;> first | exact hb | exact hs | exact hk _ _ _ _ _ _ | exact hg _ _ _ | contradiction | (exfalso; simp_all; done)
end AWP
