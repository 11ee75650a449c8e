/-! CLASS AND REFERENCE: the tape, rings, hours, prices, talks -/
section STB
variable {G : ai_G} {sl n : Nat} {X X' : mX} {Y Y' : mY}
/-- the cells of the places and of the past -/
def pcl (k : Nat) : Prop := k = 29 ∨ (47 ≤ k ∧ k ≤ 59) ∨ (61 ≤ k ∧ k ≤ 68) ∨ (79 ≤ k ∧ k ≤ 198) ∨ k = 201 ∨ k = 208 ∨ k = 227 ∨ k = 229
def pcy (k : Nat) : Prop := k = 48 ∨ k = 51 ∨ k = 155 ∨ k = 158 ∨ k = 178 ∨ k = 181 ∨ k = 204 ∨ k = 228
theorem WW_places (h : WW n X Y) (hc : ∀ k, pcl k → X' k = X k) (h28 : X' 199 28 = X 199 28) (hy : ∀ k, pcy k → Y' k = Y k) : WIm (BN n) (TN' n) (X' 29 0) (X' 229 0) (im0 X' 0) (im1 Y' 0) (cv X' 154) (lv X' 167) (Y' 155) (Y' 158) (X' 162) (X' 163) (X' 164) (X' 165) ∧ WIm (BN n) (TN' n) (X' 29 1) (X' 229 1) (im0 X' 1) (im1 Y' 1) (cv X' 177) (lv X' 190) (Y' 178) (Y' 181) (X' 185) (X' 186) (X' 187) (X' 188) ∧ PLr (BN n) (TN' n) (X' 201) (Y' 204) (cv X' 47) (lv X' 61) (Y' 48) (Y' 51) (X' 56) (X' 57) (X' 58) (X' 59) ∧ WPs (BN n) (TN' n) (X' 79 1) (X' 79 2) (X' 199 28) (X' 208) (fun o => lv X' o) := by
  obtain ⟨h1, h2, h3, h4, h5, h6, h7, h8, h9, h10, h11, h12, h13⟩ := h
  have e : ∀ k, (k = 29 ∨ (47 ≤ k ∧ k ≤ 59) ∨ (61 ≤ k ∧ k ≤ 68) ∨ (79 ≤ k ∧ k ≤ 198) ∨ k = 201 ∨ k = 208 ∨ k = 227 ∨ k = 229) → X' k = X k := hc
  have ey : ∀ k, (k = 48 ∨ k = 51 ∨ k = 155 ∨ k = 158 ∨ k = 178 ∨ k = 181 ∨ k = 204 ∨ k = 228) → Y' k = Y k := hy
  have l167 : lv X' 167 = lv X 167 := lv_eq (fun k a b => e k (by omega))
  have l190 : lv X' 190 = lv X 190 := lv_eq (fun k a b => e k (by omega))
  have c154 : cv X' 154 = cv X 154 := cv_eq (fun k a b => e k (by omega))
  have c177 : cv X' 177 = cv X 177 := cv_eq (fun k a b => e k (by omega))
  have c47 : cv X' 47 = cv X 47 := cv_eq (fun k a b => e k (by omega))
  have i0 : ∀ k, im0 X' k = im0 X k := fun k => by unfold im0; rw [e 227 (by omega)]
  have i1 : ∀ k, im1 Y' k = im1 Y k := fun k => by unfold im1; rw [ey 228 (by omega)]
  have p61 : PEQ (lv X' 61) (lv X 61) := by
    refine ⟨fun j p a b c _ => ?_, fun i _ => ?_, fun j a b => ?_⟩
    · unfold lv
      rw [if_pos (by omega), if_pos (by omega), e (61 + j) (by omega)]
    · show X' 66 i = X 66 i
      rw [e 66 (by omega)]
    · unfold lv
      rw [if_neg (by omega), if_neg (by omega), e 61 (by omega)]
  refine ⟨?_, ?_, ?_, ?_⟩
  · rw [e 29 (by omega), e 229 (by omega), i0, i1, c154, l167, ey 155 (by omega), ey 158 (by omega), e 162 (by omega), e 163 (by omega), e 164 (by omega), e 165 (by omega)]
    exact h10
  · rw [e 29 (by omega), e 229 (by omega), i0, i1, c177, l190, ey 178 (by omega), ey 181 (by omega), e 185 (by omega), e 186 (by omega), e 187 (by omega), e 188 (by omega)]
    exact h11
  · rw [c47, e 201 (by omega), ey 204 (by omega), ey 48 (by omega), ey 51 (by omega), e 56 (by omega), e 57 (by omega), e 58 (by omega), e 59 (by omega)]
    exact PLr_cg h12 (fun _ _ => rfl) (fun _ _ => rfl) (KE.rfl' _) p61 (fun _ _ => rfl) (fun _ _ => rfl) rfl rfl (fun _ _ => ⟨rfl, rfl, rfl⟩)
  · rw [e 79 (by omega), h28, e 208 (by omega)]
    exact WPs_lz h13 (fun old j => lv_eq (fun k a b => e k (by have := slot_ge old j; omega)))
theorem TB8_pair {f g : Nat → Int32} {m : Nat} {x : Int32} (h : ∃ t, TB8 f t ∧ TB8 g t) : ∃ t, TB8 (f4 f m x) t ∧ TB8 (f4 g m x) t := by
  obtain ⟨t, h1, h2⟩ := h
  obtain ⟨t', h'⟩ := TB8_f4 (n := m) (x := x) ⟨t, h1⟩
  refine ⟨t', h', fun j hj => ⟨(h' j hj).1, ?_⟩⟩
  rw [← (h' j hj).2]
  have e : g j = f j := by rw [(h2 j hj).2, (h1 j hj).2]
  unfold f4
  simp only [upd]
  split
  · rfl
  · split
    · rfl
    · split
      · rfl
      · split
        · rfl
        · exact e
end STB
