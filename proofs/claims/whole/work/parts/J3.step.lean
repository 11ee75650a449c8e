/-! CLASS AND REFERENCE: feed -/
section STC
variable {G : ai_G} {sl n : Nat} {X X' : mX} {Y Y' : mY}
theorem s_feed {a b c e g : Int32} (hG : G.1 = false) (h : WW n X Y) : PO G sl n 12 178 [some (.ref 0), some (.int a), some (.int b), some (.int c), some (.int e), some (.int g)] [some (.ref 199), some (.int a), some (.int b), some (.int c), some (.int e), some (.int g)] X Y := by
  have h0 := h
  obtain ⟨m, t, hm, e1, e2, t1, t2⟩ := h.1
  unfold PO
  rw [tfeed_eq hG e1 hm]
  by_cases q : 920 < m
  · rw [if_pos q]
    refine ⟨rfl, rfl, _, rfl, ⟨_, _, rfl⟩, ?_⟩
    rw [rfeed_eq hG e2 hm, if_pos q]
    exact fin_tz h
  · rw [if_neg q]
    refine ⟨rfl, rfl, _, rfl, ⟨_, _, rfl⟩, ?_⟩
    rw [rfeed_eq (X := va_up (va_up X 0 (upd (X 0) 15 (nI (m + 20)))) 1 (f4 (f4 (f4 (f4 (f4 (X 1) m a) (m + 4) b) (m + 8) c) (m + 12) e) (m + 16) g)) hG e2 hm, if_neg q]
    refine ⟨rfl, rfl, rfl, _, _, rfl, WW_mono ?_⟩
    have tt := TB8_pair (m := m + 16) (x := g) (TB8_pair (m := m + 12) (x := e) (TB8_pair (m := m + 8) (x := c) (TB8_pair (m := m + 4) (x := b) (TB8_pair (m := m) (x := a) ⟨t, t1, t2⟩))))
    obtain ⟨t', u1, u2⟩ := tt
    obtain ⟨-, h2, h3, h4, h5, h6, h7, h8, h9, -⟩ := h
    obtain ⟨p1, p2, p3, p4⟩ := WW_places (X' := va_up (va_up (va_up (va_up X 0 (upd (X 0) 15 (nI (m + 20)))) 1 (f4 (f4 (f4 (f4 (f4 (X 1) m a) (m + 4) b) (m + 8) c) (m + 12) e) (m + 16) g)) 199 (upd (upd (X 199) 0 (nI 0)) 2 (nI (m + 20)))) 200 (f4 (f4 (f4 (f4 (f4 (X 200) m a) (m + 4) b) (m + 8) c) (m + 12) e) (m + 16) g)) (Y' := Y) h0 (fun k hk => by unfold pcl at hk; rw [va_up_ne _ _ (by omega), va_up_ne _ _ (by omega), va_up_ne _ _ (by omega), va_up_ne _ _ (by omega)]) rfl (fun _ _ => rfl)
    exact ⟨⟨m + 20, t', by omega, rfl, rfl, u1, u2⟩, h2, h3, h4, h5, h6, h7, h8, h9, p1, p2, p3, p4⟩
end STC
