section TST
variable {G : ai_G} {d n sl : Nat} {M : ai_M} {Q : List Value → Nat → Nat → ai_M → Prop}
set_option maxHeartbeats 4000000 in
theorem note_spec {o c q1 q2 q3 q4 q5 q6 q7 q8 : Nat} {ru da co so he a b : Int32} {f : Nat → Int32} (hM : M o = .inr (3, [.ref c, .ref q1, .ref q2, .ref q3, .ref q4, .ref q5, .ref q6, .ref q7, .ref q8, .int ru, .int da, .int co, .int so, .int he])) (ho : o < n) (h5 : M q5 = .inl (0, 64, .inl f)) (hq : q5 < n) (hne : q5 ≠ 1000000) (hib : ai_ib (a * 8 + b) 64 = true) : aw ET G d 43 0 [some (.ref o), some (.int a), some (.int b)] [] n sl M Q = Q [.int (f (a * 8 + b).toNatClampNeg)] n sl M := by
  simp [w43_0, w43_1, w43_4, w43_5, w43_7, w43_8, w43_9, w43_10, w43_11, aw_st, ai_cls, ai_len, ai_p, ai_at, ai_isA, ai_isI, ai_ld, ai_m, ow43, in43, rt43, pl3_24, nf3, ai_2i, hM, ho, h5, hq, hne, hib, ai_rs]
end TST
