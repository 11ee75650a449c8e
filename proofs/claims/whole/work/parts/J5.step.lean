/-! CLASS AND REFERENCE: what an act asks for -/
section STE
variable {G : ai_G} {sl n P S B T B' T' : Nat} {X X' : mX} {Y Y' : mY} {l l' k k' : Nat → Nat → Int32} {s s' : Nat → Int32}
theorem PLr_act {rn n1 n2 : Nat → Int64} {s0 s1 s2 s3 : Nat → Int32} (h : PLr B T s rn k l n1 n2 s0 s1 s2 s3) (hl : LSx s' l') (hi : LI l' B' T') (e : ∀ j, j < 132 ∨ 257 ≤ j → s' j = s j) : PLr B' T' s' rn k l' n1 n2 s0 s1 s2 s3 := by
  obtain ⟨P, S, nm, h1, h2, h3, h4, h5, h6⟩ := h
  exact ⟨P, S, nm, KS_cg h1 (fun j hj => e j (by omega)) (KE.rfl' _), h2, hl, hi, h5, SNr_cg h6 (fun j hj _ => e j (by omega)) rfl rfl (fun _ _ => ⟨rfl, rfl, rfl⟩)⟩
theorem LI_cp {r : Nat → Nat → Int32} (l : Nat → Nat → Int32) (h : LI r B T) : LI (cpyL l r) B T := LI_peq h (PEQ_cpy l r)
def po (old m : Nat) : Nat := if m = 8 then (old + 1) % 8 else old
def pt (old m : Nat) : Nat := if m = 8 then slot old 0 else slot old m
theorem pt_ge (old m : Nat) : 81 ≤ pt old m ∧ pt old m ≤ 144 := by
  unfold pt
  split
  · exact slot_ge old 0
  · exact slot_ge old m
theorem pushX_pt {old m o : Nat} : pushX X old m o = plv (psX X (po old m) (pushN m)) (pt old m) (cpyL (lv X (pt old m)) (lv X o)) := rfl
theorem slot_new {old m c : Nat} (hold : old < 8) (hm : m ≤ 8) (hc : c < pushN m) : (slot (po old m) c = pt old m ∧ ∀ (ls : Nat → Nat → Nat → Int32) (l : Nat → Nat → Int32), pushL m ls l c = l) ∨ ∃ c', c' < m ∧ slot (po old m) c = slot old c' ∧ (slot old c' + 8 < pt old m ∨ pt old m + 8 < slot old c') ∧ ∀ (ls : Nat → Nat → Nat → Int32) (l : Nat → Nat → Int32), pushL m ls l c = ls c' := by
  by_cases q : m = 8
  · subst q
    have hc8 : c < 8 := hc
    by_cases c7 : c = 7
    · subst c7
      refine Or.inl ⟨?_, fun ls l => ?_⟩
      · show 81 + 9 * (((old + 1) % 8 + 7) % 8) = 81 + 9 * ((old + 0) % 8)
        omega
      · unfold pushL
        rw [if_pos rfl, if_neg (by omega)]
    · refine Or.inr ⟨c + 1, by omega, ?_, ?_, fun ls l => ?_⟩
      · show 81 + 9 * (((old + 1) % 8 + c) % 8) = 81 + 9 * ((old + (c + 1)) % 8)
        omega
      · show 81 + 9 * ((old + (c + 1)) % 8) + 8 < 81 + 9 * ((old + 0) % 8) ∨ 81 + 9 * ((old + 0) % 8) + 8 < 81 + 9 * ((old + (c + 1)) % 8)
        omega
      · unfold pushL
        rw [if_pos rfl, if_pos (by omega)]
  · have hc9 : c < m + 1 := by
      unfold pushN at hc
      rw [if_neg q] at hc
      exact hc
    have e1 : po old m = old := if_neg q
    have e2 : pt old m = slot old m := if_neg q
    rw [e1, e2]
    by_cases cm : c = m
    · subst cm
      refine Or.inl ⟨rfl, fun ls l => ?_⟩
      unfold pushL
      rw [if_neg q, if_pos rfl]
    · refine Or.inr ⟨c, by omega, rfl, ?_, fun ls l => ?_⟩
      · show 81 + 9 * ((old + c) % 8) + 8 < 81 + 9 * ((old + m) % 8) ∨ 81 + 9 * ((old + m) % 8) + 8 < 81 + 9 * ((old + c) % 8)
        omega
      · unfold pushL
        rw [if_neg q, if_neg cm]
theorem WPs_push {old m o : Nat} {u' : Nat → Int32} (hold : old < 8) (hm : m ≤ 8) (hU : US u' (pushN m) (pushL m (fun j => lv X (slot old j)) l)) (hLI : ∀ j, j < m → LI (lv X (slot old j)) B T) (hl : ∀ s, LSx s l → LSx s (lv X o)) (hlo : LI (lv X o) B T) (hX : ∀ j, 79 ≤ j → j ≤ 152 → X' j = pushX X old m o j) : WPs B T (X' 79 1) (X' 79 2) (nI (pushN m)) u' (fun o => lv X' o) := by
  have hg := pt_ge old m
  have e : ∀ c, lv X' (slot (po old m) c) = lv (pushX X old m o) (slot (po old m) c) := fun c => lv_eq (fun k a b => hX k (by have := slot_ge (po old m) c; omega) (by have := slot_ge (po old m) c; omega))
  have e79 : X' 79 = upd (upd (X 79) 1 (nI (po old m))) 2 (nI (pushN m)) := by
    rw [hX 79 (by omega) (by omega), pushX_pt, plv_out (by omega)]
    unfold psX
    rw [show va_up X 79 (upd (upd (X 79) 1 (nI (po old m))) 2 (nI (pushN m))) 79 = upd (upd (X 79) 1 (nI (po old m))) 2 (nI (pushN m)) from va_up_self _ _ _]
  have hnew : ∀ c, slot (po old m) c = pt old m → LEQ (lv X' (slot (po old m) c)) (cpyL (lv X (pt old m)) (lv X o)) := fun c q => by
    rw [e, q, pushX_pt]
    exact LEQ_plv _
  have hold' : ∀ c c', slot (po old m) c = slot old c' → (slot old c' + 8 < pt old m ∨ pt old m + 8 < slot old c') → lv X' (slot (po old m) c) = lv X (slot old c') := fun c c' q1 q2 => by
    have := slot_ge old c'
    rw [e, q1, pushX_pt, lv_plv_ne (by omega)]
    unfold psX
    rw [lv_up (by omega)]
  refine ⟨po old m, pushN m, by unfold po; split <;> omega, by unfold pushN; split <;> omega, ?_, ?_, rfl, ⟨hU.1, fun c hc => ?_⟩, fun c hc => ?_⟩
  · rw [e79, pk_un (by omega), pk_us]
  · rw [e79, pk_us]
  · have hh := hU.2 c hc
    show LSx _ (lv X' (slot (po old m) c))
    rcases slot_new hold hm hc with ⟨q1, q2⟩ | ⟨c', q1, q2, q3, q4⟩
    · rw [q2] at hh
      exact LSx_cg (LSx_cpy (hl _ hh)) (hnew c q1).symm
    · rw [q4] at hh
      rw [hold' c c' q2 q3]
      exact hh
  · show LI (lv X' (slot (po old m) c)) B T
    rcases slot_new hold hm hc with ⟨q1, q2⟩ | ⟨c', q1, q2, q3, q4⟩
    · exact LI_peq (LI_cp _ hlo) (PEQ_leq (hnew c q1))
    · rw [hold' c c' q2 q3]
      exact hLI c' q1
/-- the cells that few calls write -/
def ck (k : Nat) : Prop := k = 29 ∨ (35 ≤ k ∧ k ≤ 46) ∨ (153 ≤ k ∧ k ≤ 198) ∨ k = 207 ∨ (212 ≤ k ∧ k ≤ 214) ∨ (221 ≤ k ∧ k ≤ 223) ∨ k = 227 ∨ k = 229
def ckf (j : Nat) : Prop := j = 24 ∨ j = 34 ∨ j = 38 ∨ j = 44
def cky (k : Nat) : Prop := k = 155 ∨ k = 158 ∨ k = 178 ∨ k = 181 ∨ k = 205 ∨ k = 228
theorem WW_gen (h : WW n X Y) (hc : ∀ k, ck k → X' k = X k) (hf : ∀ j, ckf j → X' 199 j = X 199 j) (h14 : X' 0 14 = X 0 14) (hy : ∀ k, cky k → Y' k = Y k) (hT : WTp (X' 0 15) (X' 199 2) (X' 1) (X' 200)) (hF : X' 0 16 = X' 199 15) (hS : X' 0 17 = (if X' 199 29 = 0 then mi1 else X' 199 30)) (hB : WBk (X' 30) (X' 199 54) (X' 224)) (hP : PLr (BN (n + 1)) (TN' (n + 1)) (X' 201) (Y' 204) (cv X' 47) (lv X' 61) (Y' 48) (Y' 51) (X' 56) (X' 57) (X' 58) (X' 59)) (hW : WPs (BN (n + 1)) (TN' (n + 1)) (X' 79 1) (X' 79 2) (X' 199 28) (X' 208) (fun o => lv X' o)) : WW (n + 1) X' Y' := by
  obtain ⟨-, -, -, h4, h5, h6, h7, -, h9, h10, h11, -, -⟩ := WW_mono h
  have e : ∀ k, (k = 29 ∨ (35 ≤ k ∧ k ≤ 46) ∨ (153 ≤ k ∧ k ≤ 198) ∨ k = 207 ∨ (212 ≤ k ∧ k ≤ 214) ∨ (221 ≤ k ∧ k ≤ 223) ∨ k = 227 ∨ k = 229) → X' k = X k := hc
  have f : ∀ j, (j = 24 ∨ j = 34 ∨ j = 38 ∨ j = 44) → X' 199 j = X 199 j := hf
  have ey : ∀ k, (k = 155 ∨ k = 158 ∨ k = 178 ∨ k = 181 ∨ k = 205 ∨ k = 228) → Y' k = Y k := hy
  have l167 : lv X' 167 = lv X 167 := lv_eq (fun k a b => e k (by omega))
  have l190 : lv X' 190 = lv X 190 := lv_eq (fun k a b => e k (by omega))
  have c154 : cv X' 154 = cv X 154 := cv_eq (fun k a b => e k (by omega))
  have c177 : cv X' 177 = cv X 177 := cv_eq (fun k a b => e k (by omega))
  have i0 : ∀ k, im0 X' k = im0 X k := fun k => by unfold im0; rw [e 227 (by omega)]
  have i1 : ∀ k, im1 Y' k = im1 Y k := fun k => by unfold im1; rw [ey 228 (by omega)]
  refine ⟨hT, hF, hS, ?_, ?_, ?_, ?_, hB, ?_, ?_, ?_, hP, hW⟩
  · rw [h14, f 24 (by omega), e 46 (by omega), e 207 (by omega)]; exact h4
  · rw [e 35 (by omega), f 34 (by omega), e 37 (by omega), e 212 (by omega)]; exact h5
  · rw [e 38 (by omega), f 38 (by omega), e 39 (by omega), e 40 (by omega), e 213 (by omega), e 214 (by omega)]; exact h6
  · rw [e 42 (by omega), e 45 (by omega), f 44 (by omega), e 221 (by omega), e 222 (by omega), e 223 (by omega)]; exact h7
  · intro k hk; rw [ey 205 (by omega)]; exact h9 k hk
  · rw [e 29 (by omega), e 229 (by omega), i0, i1, c154, l167, ey 155 (by omega), ey 158 (by omega), e 162 (by omega), e 163 (by omega), e 164 (by omega), e 165 (by omega)]
    exact h10
  · rw [e 29 (by omega), e 229 (by omega), i0, i1, c177, l190, ey 178 (by omega), ey 181 (by omega), e 185 (by omega), e 186 (by omega), e 187 (by omega), e 188 (by omega)]
    exact h11
end STE
