/-! CLASS AND REFERENCE: SENTENCE, SAID -/
section STN
variable {G : ai_G} {sl n P S B T B' T' : Nat} {X X' : mX} {Y Y' : mY} {l l' k k' : Nat → Nat → Int32} {s s' : Nat → Int32}
theorem PLr_sn {rn n1 n2 : Nat → Int64} {t0 t1 t2 t3 : Nat → Int32} (hk : KS s k P S) (hc : CI k P S) (hl : LSx s l) (hi : LI l B T) {nm : Nat → List Nat} (hn : NMr P S nm n1 n2 rn) (e : ∀ j, ¬ (257 ≤ j ∧ j < 378) → s' j = s j) (hs : SNr P S s' t0 t1 t2 t3) : PLr B T s' rn k l n1 n2 t0 t1 t2 t3 :=
  ⟨P, S, nm, KS_cg hk (fun j hj => e j (by omega)) (KE.rfl' _), hc, LSx_peq hl (PEQ.rfl' _) (fun j a b => e j (by omega)), hi, hn, hs⟩
set_option maxHeartbeats 4000000 in
theorem s_sentence (hG : G.1 = false) (h : WW n X Y) : PO G sl n 155 276 [some (.ref 0), none] [some (.ref 199), none, none] X Y := by
  obtain ⟨P, S, nm, hk, hc, hl, hi, hnm, hs⟩ := h.now
  obtain ⟨sz, t, hsz, e1, e2, t1, t2⟩ := h.1
  have hR := h.2.2.2.2.2.2.2.2.1
  have hB : BN n ≤ BN (n + 1) := by unfold BN; omega
  have hT : TN' n ≤ TN' (n + 1) := by unfold TN'; omega
  have htn : TN X Y nm P S := ⟨hk.1, hk.2.1, hk.2.2.1, hk.2.2.2.1, hnm.1, hnm.2.1⟩
  have hrn : RNM X Y nm P S := ⟨hk.1, hk.2.1, hk.2.2.2.2.1, hk.2.2.2.2.2.1, fun q hq => ⟨by rw [Nat.zero_add]; exact hnm.2.2.1 q hq, (hnm.1 q hq).2⟩, fun q hq => ⟨hnm.2.2.2 q hq, (hnm.2.1 q hq).2⟩⟩
  unfold PO
  refine tsent_wp (d := 27) (t := t) (n := sz) hG t1 e1 hsz htn (fun e j hg X1 Y1 f1 f2 f3 => ?_) (fun i' o' L' hg hi' X1 Y1 f1 f2 f3 => ?_)
  · refine ⟨rfl, rfl, _, rfl, ⟨_, _, rfl⟩, ?_⟩
    obtain ⟨x1, x2, x3, x4⟩ := f1
    have ex1 : ∀ k, 18 ≤ k → X1 k = X k := fun k a => by
      by_cases c : 56 ≤ k ∧ k ≤ 59
      · exact f3 k c.1 c.2
      · exact x1 k (by omega) (by omega) (by omega) c
    refine rsent_bad (d := 56) (nm := nm) (P := P) (S := S) (by rw [x4 205 (by omega)]; exact hR) ?_ (by rw [ex1 200 (by omega)]; exact t2) (by rw [ex1 199 (by omega)]; exact e2) hsz hg (fun X2 Y2 g1 g2 g3 => ?_)
    · unfold RNM
      rw [ex1 201 (by omega), x4 204 (by omega)]
      exact hrn
    · refine ⟨rfl, rfl, rfl, _, _, rfl, ?_⟩
      obtain ⟨r1, r2, r3, r4, r5, r6⟩ := g1
      have ex : ∀ k, 18 ≤ k → ¬ k = 199 → ¬ k = 203 → ¬ k = 225 → X2 k = X k := fun k a b c d => by
        by_cases c2 : k = 201
        · subst c2; rw [g2, ex1 201 a]
        · rw [r1 k b c2 c d, ex1 k a]
      have f199 : ∀ j, 19 ≤ j → ¬ (56 ≤ j ∧ j ≤ 60) → X2 199 j = X 199 j := fun j a b => by rw [r3 j (by omega) (by omega) (by omega) (by omega) b, ex1 199 (by omega)]
      have ex0 : X2 0 = X1 0 := r1 0 (by omega) (by omega) (by omega) (by omega)
      have hl61 : lv X2 61 = lv X 61 := lv_eq (fun k a b => ex k (by omega) (by omega) (by omega) (by omega))
      refine bk_fin h (fun k a b c d e f g _ _ _ w => ?_) (fun j a b => ?_) ?_ (fun k a b => ?_) (fun j a b c d => f199 j a (by omega)) r5 ?_ ?_ ?_ ?_
      · rcases a with a | a
        · exact ex k (by omega) d f w
        · subst a
          rw [r1 1 (by omega) (by omega) (by omega) (by omega), x1 1 (by omega) (by omega) (by omega) (by omega)]
      · rw [ex0, x2 j a b]
      · rw [ex0, x3]
      · rw [r6 k b, x4 k (by omega)]
      · rw [ex0, f2, g3]
      · rw [ex 30 (by omega) (by omega) (by omega) (by omega), f199 54 (by omega) (by omega), ex 224 (by omega) (by omega) (by omega) (by omega)]
        exact h.2.2.2.2.2.2.2.1
      · rw [hl61, ex 201 (by omega) (by omega) (by omega) (by omega), ex 56 (by omega) (by omega) (by omega) (by omega), ex 57 (by omega) (by omega) (by omega) (by omega), ex 58 (by omega) (by omega) (by omega) (by omega), ex 59 (by omega) (by omega) (by omega) (by omega)]
        exact PLr_mono h.now hB hT
      · rw [ex 79 (by omega) (by omega) (by omega) (by omega), f199 28 (by omega) (by omega), ex 208 (by omega) (by omega) (by omega) (by omega)]
        exact WPs_mono (WPs_lz h.past (fun old j => lv_eq (fun i x y => by
          have := slot_ge old j
          exact ex i (by omega) (by omega) (by omega) (by omega)))) hB hT
  · refine ⟨rfl, rfl, _, rfl, ⟨_, _, rfl⟩, ?_⟩
    obtain ⟨x1, x2, x3, x4⟩ := f1
    have ex1 : ∀ k, 18 ≤ k → (k < 56 ∨ 59 < k) → X1 k = X k := fun k a b => x1 k (by omega) (by omega) (by omega) (by omega)
    refine rsent_ok (d := 56) (nm := nm) (P := P) (S := S) (by rw [x4 205 (by omega)]; exact hR) ?_ (by rw [ex1 200 (by omega) (by omega)]; exact t2) (by rw [ex1 199 (by omega) (by omega)]; exact e2) hsz hg (fun X2 Y2 g1 g2 g3 => ?_)
    · unfold RNM
      rw [ex1 201 (by omega) (by omega), x4 204 (by omega)]
      exact hrn
    · refine ⟨rfl, rfl, rfl, _, _, rfl, ?_⟩
      obtain ⟨r1, r2, r3, r4, r5, r6⟩ := g1
      obtain ⟨-, ⟨u1, u2, M, u3, u4, u5, u6⟩, -⟩ := hg
      rw [List.nil_append] at u3
      subst u3
      have ex : ∀ k, 18 ≤ k → (k < 56 ∨ 59 < k) → ¬ k = 199 → ¬ k = 201 → ¬ k = 203 → ¬ k = 225 → X2 k = X k := fun k a a2 b b2 c d => by rw [r1 k b b2 c d, ex1 k a a2]
      have es : ∀ k, 56 ≤ k → k ≤ 59 → X2 k = X1 k := fun k a b => r1 k (by omega) (by omega) (by omega) (by omega)
      have f199 : ∀ j, 19 ≤ j → ¬ (56 ≤ j ∧ j ≤ 60) → X2 199 j = X 199 j := fun j a b => by rw [r3 j (by omega) (by omega) (by omega) (by omega) b, ex1 199 (by omega) (by omega)]
      have ex0 : X2 0 = X1 0 := r1 0 (by omega) (by omega) (by omega) (by omega)
      have hl61 : lv X2 61 = lv X 61 := lv_eq (fun k a b => ex k (by omega) (by omega) (by omega) (by omega) (by omega) (by omega))
      refine bk_fin h (fun k a b c d e f g _ _ _ w => ?_) (fun j a b => ?_) ?_ (fun k a b => ?_) (fun j a b c d => f199 j a (by omega)) r5 ?_ ?_ ?_ ?_
      · rcases a with a | a
        · exact ex k (by omega) (by omega) d e f w
        · subst a
          rw [r1 1 (by omega) (by omega) (by omega) (by omega), x1 1 (by omega) (by omega) (by omega) (by omega)]
      · rw [ex0, x2 j a b]
      · rw [ex0, x3]
      · rw [r6 k b, x4 k (by omega)]
      · rw [ex0, f2, g3]
      · rw [ex 30 (by omega) (by omega) (by omega) (by omega) (by omega) (by omega), f199 54 (by omega) (by omega), ex 224 (by omega) (by omega) (by omega) (by omega) (by omega) (by omega)]
        exact h.2.2.2.2.2.2.2.1
      · rw [hl61, es 56 (by omega) (by omega), es 57 (by omega) (by omega), es 58 (by omega) (by omega), es 59 (by omega) (by omega)]
        refine PLr_sn hk hc hl (hi.mono hB hT) hnm (fun j hj => by rw [r2 j hj, ex1 201 (by omega) (by omega)]) (Or.inr ⟨L', o', u1, u2, by omega, u6, ?_, f3, g2⟩)
        exact u5 0
      · rw [ex 79 (by omega) (by omega) (by omega) (by omega) (by omega) (by omega), f199 28 (by omega) (by omega), ex 208 (by omega) (by omega) (by omega) (by omega) (by omega) (by omega)]
        exact WPs_mono (WPs_lz h.past (fun old j => lv_eq (fun i x y => by
          have := slot_ge old j
          exact ex i (by omega) (by omega) (by omega) (by omega) (by omega) (by omega)))) hB hT
theorem WW_same (h : WW n X Y) (hc : ∀ k, ¬ k = 60 → ¬ k = 199 → ¬ k = 226 → X' k = X k) (hf : ∀ j, ¬ j = 0 → X' 199 j = X 199 j) : WW (n + 1) X' Y := by
  have hB : BN n ≤ BN (n + 1) := by unfold BN; omega
  have hT : TN' n ≤ TN' (n + 1) := by unfold TN'; omega
  obtain ⟨h1, h2, h3, h4, h5, h6, h7, -⟩ := id h
  refine WW_sml h (fun k hk => ?_) (fun j a b => ?_) (fun j a => hf j (by omega)) ?_ ?_ ?_ ?_ ?_
  · unfold dk pcl at hk
    exact hc k (by omega) (by omega) (by omega)
  · rw [hc 0 (by omega) (by omega) (by omega)]
  · rw [hc 0 (by omega) (by omega) (by omega), hf 2 (by omega), hc 1 (by omega) (by omega) (by omega), hc 200 (by omega) (by omega) (by omega)]
    exact h1
  · rw [hc 0 (by omega) (by omega) (by omega), hf 24 (by omega), hc 46 (by omega) (by omega) (by omega), hc 207 (by omega) (by omega) (by omega)]
    exact h4
  · rw [hc 35 (by omega) (by omega) (by omega), hf 34 (by omega), hc 37 (by omega) (by omega) (by omega), hc 212 (by omega) (by omega) (by omega)]
    exact h5
  · rw [hc 38 (by omega) (by omega) (by omega), hf 38 (by omega), hc 39 (by omega) (by omega) (by omega), hc 40 (by omega) (by omega) (by omega), hc 213 (by omega) (by omega) (by omega), hc 214 (by omega) (by omega) (by omega)]
    exact h6
  · rw [hc 42 (by omega) (by omega) (by omega), hf 44 (by omega), hc 45 (by omega) (by omega) (by omega), hc 221 (by omega) (by omega) (by omega), hc 222 (by omega) (by omega) (by omega), hc 223 (by omega) (by omega) (by omega)]
    exact h7
theorem s_said {x : Int32} (hG : G.1 = false) (h : WW n X Y) : PO G sl n 164 283 [some (.ref 0), some (.int x), none, none, none] [some (.ref 199), some (.int x), none, none] X Y := by
  obtain ⟨P, S, nm, hk, hc, hl, hi, hnm, hs⟩ := h.now
  unfold PO
  rcases hs with ⟨a1, a2⟩ | ⟨L, o, a1, a2, a3, a4, a5, a6, a7⟩
  · rw [tsaid_none a1]
    refine ⟨rfl, rfl, _, rfl, ⟨_, _, rfl⟩, ?_⟩
    rw [rsaid_none a2]
    exact fin_tz h
  · refine tsaid_wp (d := 55) (L := L) (o := o) hk.1 hk.2.1 hk.2.2.1 a1 a2 a3 a6 a4 a5 (fun Z hz => ?_)
    refine ⟨rfl, rfl, _, rfl, ⟨_, _, rfl⟩, ?_⟩
    have e201 : Z 201 = X 201 := hz 201 (by omega)
    refine rsaid_wp (d := 57) (l := lv X 61) (k := cv X 47) (P := P) (S := S) (L := L) hG (by rw [e201]; exact hl.1) (by rw [e201]; exact hk) a3 ?_ a4 a5 (fun V hv => ?_)
    · unfold SKr
      rw [e201]
      exact a7
    · refine ⟨rfl, rfl, rfl, _, _, rfl, ?_⟩
      refine WW_same h (fun k a b c => ?_) (fun j a => ?_)
      · rw [hv k c]
        unfold tz
        rw [va_up_ne _ _ b, hz k a]
      · rw [hv 199 (by omega)]
        unfold tz
        rw [va_up_self, pk_un a, hz 199 (by omega)]
end STN
