/-! CLASS AND REFERENCE: end -/
section STD
variable {G : ai_G} {sl n : Nat} {X X' : mX} {Y Y' : mY}
theorem s_end {x : Int32} (h : WW n X Y) : PO G sl n 14 180 [some (.ref 0), some (.int x)] [some (.ref 199), some (.int x)] X Y := by
  have h0 := h
  obtain ⟨m, t, hm, e1, e2, t1, t2⟩ := h.1
  unfold PO
  rw [tend_eq e1 hm]
  cases q : pI (m + 1) x
  · rw [if_neg (by decide)]
    refine ⟨rfl, rfl, _, rfl, ⟨_, _, rfl⟩, ?_⟩
    rw [rend_eq e2 hm, if_neg (by rw [q]; decide)]
    exact fin_tz h
  · rw [if_pos rfl]
    refine ⟨rfl, rfl, _, rfl, ⟨_, _, rfl⟩, ?_⟩
    rw [rend_eq (X := va_up X 0 (upd (X 0) 15 x)) e2 hm, if_pos q]
    refine ⟨rfl, rfl, rfl, _, _, rfl, WW_mono ?_⟩
    obtain ⟨a, ha, rfl⟩ := (pI_nat (by omega)).mp q
    obtain ⟨-, h2, h3, h4, h5, h6, h7, h8, h9, -⟩ := h
    obtain ⟨p1, p2, p3, p4⟩ := WW_places (X' := va_up (va_up X 0 (upd (X 0) 15 (nI a))) 199 (upd (upd (va_up X 0 (upd (X 0) 15 (nI a)) 199) 0 (nI 0)) 2 (nI a))) (Y' := Y) h0 (fun k hk => by unfold pcl at hk; rw [va_up_ne _ _ (by omega), va_up_ne _ _ (by omega)]) rfl (fun _ _ => rfl)
    exact ⟨⟨a, t, by omega, rfl, rfl, t1, t2⟩, h2, h3, h4, h5, h6, h7, h8, h9, p1, p2, p3, p4⟩
end STD
