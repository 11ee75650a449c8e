/-! CLASS AND REFERENCE: what holds between two calls -/
section REL
variable {P S B T n : Nat} {l l' k k' : Nat → Nat → Int32} {s s' : Nat → Int32}
def KE (k k' : Nat → Nat → Int32) : Prop := (∀ j p, 1 ≤ j → j ≤ 6 → ¬ j = 3 → p < 8 → k' j p = k j p) ∧ (∀ j, 7 ≤ j → j ≤ 12 → k' j 0 = k j 0)
theorem KE.rfl' (k : Nat → Nat → Int32) : KE k k := ⟨fun _ _ _ _ _ _ => rfl, fun _ _ _ => rfl⟩
theorem KS_cg (h : KS s k P S) (e : ∀ j, j < 132 → s' j = s j) (g : KE k k') : KS s' k' P S := by
  obtain ⟨h1, h2, h3, h4, h5, h6, h7, h8, h9, h10, h11, h12, h13, h14, h15⟩ := h
  refine ⟨h1, h2, ?_, ?_, ?_, ?_, ?_, ?_, fun p hp => ?_, fun p hp => ?_, fun p hp => ?_, fun p hp => ?_, fun p hp => ?_, fun p hp => ?_, fun p hp => ?_⟩
  · rw [g.2 7 (by omega) (by omega)]; exact h3
  · rw [g.2 8 (by omega) (by omega)]; exact h4
  · rw [e 0 (by omega)]; exact h5
  · rw [e 1 (by omega)]; exact h6
  · rw [e 2 (by omega), g.2 11 (by omega) (by omega)]; exact h7
  · rw [e 3 (by omega), g.2 12 (by omega) (by omega)]; exact h8
  · rw [e _ (by omega), g.1 1 p (by omega) (by omega) (by omega) (by omega)]; exact h9 p hp
  · rw [e _ (by omega), g.1 2 p (by omega) (by omega) (by omega) (by omega)]; exact h10 p hp
  · rw [e _ (by omega), g.2 9 (by omega) (by omega)]; exact h11 p hp
  · rw [e _ (by omega), g.2 10 (by omega) (by omega)]; exact h12 p hp
  · rw [e _ (by omega), g.1 4 p (by omega) (by omega) (by omega) (by omega)]; exact h13 p hp
  · rw [e _ (by omega), g.1 5 p (by omega) (by omega) (by omega) (by omega)]; exact h14 p hp
  · rw [e _ (by omega), g.1 6 p (by omega) (by omega) (by omega) (by omega)]; exact h15 p hp
theorem CI_cg (hP : P ≤ 8) (hS : S ≤ 8) (h : CI k P S) (g : KE k k') : CI k' P S := by
  obtain ⟨h1, h2, h3, h4, h5, h6, h7⟩ := h
  refine ⟨?_, ?_, fun p hp => ?_, fun p hp => ?_, fun p hp => ?_, fun p hp => ?_, fun p hp => ?_⟩
  · rw [g.2 11 (by omega) (by omega)]; exact h1
  · rw [g.2 12 (by omega) (by omega)]; exact h2
  · rw [g.1 1 p (by omega) (by omega) (by omega) (by omega)]; exact h3 p hp
  · rw [g.1 2 p (by omega) (by omega) (by omega) (by omega)]; exact h4 p hp
  · rw [g.1 5 p (by omega) (by omega) (by omega) (by omega)]; exact h5 p hp
  · rw [g.1 6 p (by omega) (by omega) (by omega) (by omega)]; exact h6 p hp
  · rw [g.1 4 p (by omega) (by omega) (by omega) (by omega)]; exact h7 p hp
theorem rsum_cg {f g : Nat → Int32} : ∀ (r p : Nat) (a : Int32), (∀ q, p ≤ q → q < p + r → g q = f q) → rsum g p r a = rsum f p r a := by
  intro r
  induction r with
  | zero => intro p a _; rfl
  | succ r ih =>
    intro p a h
    unfold rsum
    rw [h p (by omega) (by omega)]
    exact ih _ _ (fun q h1 h2 => h q (by omega) (by omega))
theorem LSx_peq (h : LSx s l) (g : PEQ l' l) (e : ∀ j, 132 ≤ j → j < 257 → s' j = s j) : LSx s' l' := by
  obtain ⟨⟨a1, a2, a3, a4, a5, a6, a7, a8, a9, a10, a11, a12⟩, b⟩ := h
  refine ⟨⟨?_, ?_, ?_, ?_, fun p hp => ?_, fun p hp => ?_, fun p hp => ?_, fun p hp => ?_, fun p hp => ?_, fun p hp => ?_, fun p hp => ?_, fun p hp => ?_⟩, ?_⟩
  · rw [e _ (by omega) (by omega), g.2.2 10 (by omega) (by omega)]; exact a1
  · rw [e _ (by omega) (by omega), g.2.2 11 (by omega) (by omega)]; exact a2
  · rw [e _ (by omega) (by omega), g.2.2 12 (by omega) (by omega)]; exact a3
  · rw [e _ (by omega) (by omega), g.2.2 13 (by omega) (by omega)]; exact a4
  · rw [e _ (by omega) (by omega), g.1 1 p (by omega) (by omega) (by omega) hp]; exact a5 p hp
  · rw [e _ (by omega) (by omega), g.1 2 p (by omega) (by omega) (by omega) hp]; exact a6 p hp
  · rw [e _ (by omega) (by omega), g.2.2 9 (by omega) (by omega)]; exact a7 p hp
  · rw [e _ (by omega) (by omega), g.1 3 p (by omega) (by omega) (by omega) hp]; exact a8 p hp
  · rw [e _ (by omega) (by omega), g.1 4 p (by omega) (by omega) (by omega) hp]; exact a9 p hp
  · rw [e _ (by omega) (by omega), g.2.1 p hp]; exact a10 p hp
  · rw [e _ (by omega) (by omega), g.1 6 p (by omega) (by omega) (by omega) hp]; exact a11 p hp
  · rw [e _ (by omega) (by omega), g.1 7 p (by omega) (by omega) (by omega) hp]; exact a12 p hp
  · rw [e _ (by omega) (by omega), b]
    exact (rsum_cg 8 0 0 (fun q _ hq => g.1 3 q (by omega) (by omega) (by omega) (by omega))).symm
theorem LI_peq (h : LI l B T) (g : PEQ l' l) : LI l' B T := by
  obtain ⟨a, b, c, e, f⟩ := h
  refine ⟨fun i hi => ?_, fun p hp => ?_, fun p hp => ?_, fun i hi => ?_, ?_⟩
  · rw [g.2.1 i hi]; exact a i hi
  · rw [g.1 1 p (by omega) (by omega) (by omega) hp]; exact b p hp
  · rw [g.1 2 p (by omega) (by omega) (by omega) hp]; exact c p hp
  · rw [g.1 6 i (by omega) (by omega) (by omega) hi]; exact e i hi
  · rw [g.2.2 9 (by omega) (by omega)]; exact f
theorem PEQ.rfl' (l : Nat → Nat → Int32) : PEQ l l := ⟨fun _ _ _ _ _ _ => rfl, fun _ _ => rfl, fun _ _ _ => rfl⟩
theorem PEQ.tr {l2 : Nat → Nat → Int32} (h : PEQ l l') (g : PEQ l' l2) : PEQ l l2 := ⟨fun j p a b c e => (h.1 j p a b c e).trans (g.1 j p a b c e), fun i hi => (h.2.1 i hi).trans (g.2.1 i hi), fun j a b => (h.2.2 j a b).trans (g.2.2 j a b)⟩
/-- a SENTENCE, of both -/
def SNr (P S : Nat) (s s0 s1 s2 s3 : Nat → Int32) : Prop := (s0 5 = nI 0 ∧ s 257 = nI 0) ∨ ∃ L o, 0 < o ∧ o ≤ 20 ∧ L.length ≤ 40 ∧ (∀ z ∈ L, okZ P S z) ∧ hgS L 0 = some 1 ∧ (s0 5 = nI o ∧ s0 4 = nI L.length ∧ ∀ q, q < L.length → s1 q = nI (L.getD q (0, 0, 0)).1 ∧ s2 q = nI (L.getD q (0, 0, 0)).2.1 ∧ s3 q = nI (L.getD q (0, 0, 0)).2.2) ∧ (s 257 = nI L.length ∧ ∀ q, q < L.length → s (258 + 3 * q) = nI (rkc (L.getD q (0, 0, 0)).1) ∧ s (258 + 3 * q + 1) = nI (L.getD q (0, 0, 0)).2.1 ∧ s (258 + 3 * q + 2) = nI (L.getD q (0, 0, 0)).2.2)
theorem SNr_cg {s0 s1 s2 s3 t0 t1 t2 t3 : Nat → Int32} (h : SNr P S s s0 s1 s2 s3) (e : ∀ j, 257 ≤ j → j < 378 → s' j = s j) (e4 : t0 4 = s0 4) (e5 : t0 5 = s0 5) (e1 : ∀ q, q < 40 → t1 q = s1 q ∧ t2 q = s2 q ∧ t3 q = s3 q) : SNr P S s' t0 t1 t2 t3 := by
  rcases h with ⟨h1, h2⟩ | ⟨L, o, a1, a2, a3, a4, a5, ⟨b1, b2, b3⟩, c1, c2⟩
  · exact Or.inl ⟨by rw [e5]; exact h1, by rw [e 257 (by omega) (by omega)]; exact h2⟩
  · refine Or.inr ⟨L, o, a1, a2, a3, a4, a5, ⟨by rw [e5]; exact b1, by rw [e4]; exact b2, fun q hq => ?_⟩, by rw [e 257 (by omega) (by omega)]; exact c1, fun q hq => ?_⟩
    · obtain ⟨g1, g2, g3⟩ := e1 q (by omega)
      rw [g1, g2, g3]
      exact b3 q hq
    · rw [e (258 + 3 * q) (by omega) (by omega), e (258 + 3 * q + 1) (by omega) (by omega), e (258 + 3 * q + 2) (by omega) (by omega)]
      exact c2 q hq
/-- names, of both -/
def NMr (P S : Nat) (nm : Nat → List Nat) (n1 n2 rn : Nat → Int64) : Prop := (∀ q, q < P → n1 q = lN (v5 (nm q)) ∧ WD (nm q)) ∧ (∀ q, q < S → n2 q = lN (v5 (nmS nm q)) ∧ WD (nmS nm q)) ∧ (∀ q, q < P → rn q = lN (v8 (nm q))) ∧ (∀ q, q < S → rn (8 + q) = lN (v8 (nmS nm q)))
/-- a place of the class and a place of the reference -/
def PLr (B T : Nat) (s : Nat → Int32) (rn : Nat → Int64) (k l : Nat → Nat → Int32) (n1 n2 : Nat → Int64) (s0 s1 s2 s3 : Nat → Int32) : Prop := ∃ P S nm, KS s k P S ∧ CI k P S ∧ LSx s l ∧ LI l B T ∧ NMr P S nm n1 n2 rn ∧ SNr P S s s0 s1 s2 s3
theorem PLr_mono {B' T' : Nat} {rn n1 n2 : Nat → Int64} {s0 s1 s2 s3 : Nat → Int32} (h : PLr B T s rn k l n1 n2 s0 s1 s2 s3) (hB : B ≤ B') (hT : T ≤ T') : PLr B' T' s rn k l n1 n2 s0 s1 s2 s3 := by
  obtain ⟨P, S, nm, h1, h2, h3, h4, h5, h6⟩ := h
  exact ⟨P, S, nm, h1, h2, h3, h4.mono hB hT, h5, h6⟩
theorem PLr_cg {rn rn' n1 n2 m1 m2 : Nat → Int64} {s0 s1 s2 s3 t0 t1 t2 t3 : Nat → Int32} (h : PLr B T s rn k l n1 n2 s0 s1 s2 s3) (e : ∀ j, j < 438 → s' j = s j) (er : ∀ j, j < 16 → rn' j = rn j) (g : KE k k') (gl : PEQ l' l) (en1 : ∀ q, q < 8 → m1 q = n1 q) (en2 : ∀ q, q < 8 → m2 q = n2 q) (e4 : t0 4 = s0 4) (e5 : t0 5 = s0 5) (e1 : ∀ q, q < 40 → t1 q = s1 q ∧ t2 q = s2 q ∧ t3 q = s3 q) : PLr B T s' rn' k' l' m1 m2 t0 t1 t2 t3 := by
  obtain ⟨P, S, nm, h1, h2, h3, h4, ⟨q1, q2, q3, q4⟩, h6⟩ := h
  have hP := h1.1
  have hS := h1.2.1
  refine ⟨P, S, nm, KS_cg h1 (fun j hj => e j (by omega)) g, CI_cg hP hS h2 g, LSx_peq h3 gl (fun j _ hj => e j (by omega)), LI_peq h4 gl, ⟨fun q hq => by rw [en1 q (by omega)]; exact q1 q hq, fun q hq => by rw [en2 q (by omega)]; exact q2 q hq, fun q hq => by rw [er q (by omega)]; exact q3 q hq, fun q hq => by rw [er (8 + q) (by omega)]; exact q4 q hq⟩, SNr_cg h6 (fun j _ hj => e j (by omega)) e4 e5 e1⟩
/-- the tapes -/
def WTp (a b : Int32) (f g : Nat → Int32) : Prop := ∃ n t, n ≤ 940 ∧ a = nI n ∧ b = nI n ∧ TB8 f t ∧ TB8 g t
def WRg (a b : Int32) (f g : Nat → Int32) : Prop := ∃ L, L ≤ 8 ∧ a = nI L ∧ b = nI L ∧ ∀ i, i < L → f i = g i
def WHr (a b : Int32) (f g : Nat → Int32) : Prop := ∃ PP, PN a PP ∧ PN b PP ∧ ∀ q, q < PP → f q = g q
def WMk (a b : Int32) (f g f2 g2 : Nat → Int32) : Prop := ∃ PP, PN a PP ∧ PN b PP ∧ ∀ q, q < PP → f q = g q ∧ f2 q = g2 q
def WTk (a a4 : Int32) (f : Nat → Int32) (b : Int32) (g1 g2 g3 : Nat → Int32) : Prop := (a = nI 0 ∧ b = mi1) ∨ ∃ P m, ∃ cd : Nat → Nat, m ≤ 3 ∧ a = nI m ∧ (0 < m → a4 = nI P ∧ 0 < P ∧ P ≤ 6) ∧ (∀ i, i < m → f i = nI (cd i) ∧ cd i < 108) ∧ b = nI m ∧ ∀ q, q < m → g1 q = nI (cdH P (cd q)) ∧ g2 q = nI (cdW P (cd q)) ∧ g3 q = nI (cd q % 3 + 1)
def WBk (f : Nat → Int32) (b : Int32) (g : Nat → Int32) : Prop := b = f 5 ∧ (f 5 = nI 0 ∨ ∃ r, bkT f r ∧ bk4 g r)
def WPs (B T : Nat) (a b c : Int32) (u : Nat → Int32) (lz : Nat → Nat → Nat → Int32) : Prop := ∃ old m, old < 8 ∧ m ≤ 8 ∧ a = nI old ∧ b = nI m ∧ c = nI m ∧ US u m (fun j => lz (slot old j)) ∧ ∀ j, j < m → LI (lz (slot old j)) B T
def WIm (B T : Nat) (a b : Int32) (s : Nat → Int32) (rn : Nat → Int64) (k l : Nat → Nat → Int32) (n1 n2 : Nat → Int64) (s0 s1 s2 s3 : Nat → Int32) : Prop := a = b ∧ (a = nI 0 ∨ PLr B T s rn k l n1 n2 s0 s1 s2 s3)
def BN (n : Nat) : Nat := 13000 * n
def TN' (n : Nat) : Nat := 30 * n
def im0 (X : mX) (k : Nat) : Nat → Int32 := fun j => X 227 (438 * k + j)
def im1 (Y : mY) (k : Nat) : Nat → Int64 := fun j => Y 228 (16 * k + j)
/-- after n calls -/
def WW (n : Nat) (X : mX) (Y : mY) : Prop := WTp (X 0 15) (X 199 2) (X 1) (X 200) ∧ X 0 16 = X 199 15 ∧ X 0 17 = (if X 199 29 = 0 then mi1 else X 199 30) ∧ WRg (X 0 14) (X 199 24) (X 46) (X 207) ∧ WHr (X 35 3) (X 199 34) (X 37) (X 212) ∧ WMk (X 38 3) (X 199 38) (X 39) (X 213) (X 40) (X 214) ∧ WTk (X 42 3) (X 42 4) (X 45) (X 199 44) (X 221) (X 222) (X 223) ∧ WBk (X 30) (X 199 54) (X 224) ∧ (∀ k, k < 21 → Y 205 k = kl k) ∧ WIm (BN n) (TN' n) (X 29 0) (X 229 0) (im0 X 0) (im1 Y 0) (cv X 154) (lv X 167) (Y 155) (Y 158) (X 162) (X 163) (X 164) (X 165) ∧ WIm (BN n) (TN' n) (X 29 1) (X 229 1) (im0 X 1) (im1 Y 1) (cv X 177) (lv X 190) (Y 178) (Y 181) (X 185) (X 186) (X 187) (X 188) ∧ PLr (BN n) (TN' n) (X 201) (Y 204) (cv X 47) (lv X 61) (Y 48) (Y 51) (X 56) (X 57) (X 58) (X 59) ∧ WPs (BN n) (TN' n) (X 79 1) (X 79 2) (X 199 28) (X 208) (fun o => lv X o)
theorem WIm_mono {B' T' : Nat} {a b : Int32} {rn n1 n2 : Nat → Int64} {s0 s1 s2 s3 : Nat → Int32} (h : WIm B T a b s rn k l n1 n2 s0 s1 s2 s3) (hB : B ≤ B') (hT : T ≤ T') : WIm B' T' a b s rn k l n1 n2 s0 s1 s2 s3 := ⟨h.1, h.2.imp id (fun q => PLr_mono q hB hT)⟩
theorem WPs_mono {B' T' : Nat} {a b c : Int32} {u : Nat → Int32} {lz : Nat → Nat → Nat → Int32} (h : WPs B T a b c u lz) (hB : B ≤ B') (hT : T ≤ T') : WPs B' T' a b c u lz := by
  obtain ⟨old, m, h1, h2, h3, h4, h5, h6, h7⟩ := h
  exact ⟨old, m, h1, h2, h3, h4, h5, h6, fun j hj => (h7 j hj).mono hB hT⟩
theorem WW_mono {X : mX} {Y : mY} (h : WW n X Y) : WW (n + 1) X Y := by
  obtain ⟨h1, h2, h3, h4, h5, h6, h7, h8, h9, h10, h11, h12, h13⟩ := h
  have hB : BN n ≤ BN (n + 1) := by unfold BN; omega
  have hT : TN' n ≤ TN' (n + 1) := by unfold TN'; omega
  exact ⟨h1, h2, h3, h4, h5, h6, h7, h8, h9, WIm_mono h10 hB hT, WIm_mono h11 hB hT, PLr_mono h12 hB hT, WPs_mono h13 hB hT⟩
theorem WPs_lz {a b c : Int32} {u : Nat → Int32} {lz lz' : Nat → Nat → Nat → Int32} (h : WPs B T a b c u lz) (e : ∀ old j, lz' (slot old j) = lz (slot old j)) : WPs B T a b c u lz' := by
  obtain ⟨old, m, h1, h2, h3, h4, h5, h6, h7⟩ := h
  refine ⟨old, m, h1, h2, h3, h4, h5, ?_, fun j hj => by rw [e]; exact h7 j hj⟩
  have : (fun j => lz' (slot old j)) = (fun j => lz (slot old j)) := by funext j; exact e old j
  rw [this]
  exact h6
theorem WW_tz {X : mX} {Y : mY} {v : Int32} (h : WW n X Y) : WW n (tv X v) Y := by
  obtain ⟨h1, h2, h3, h4, h5, h6, h7, h8, h9, h10, h11, h12, h13⟩ := h
  refine ⟨h1, h2, h3, h4, h5, h6, h7, h8, h9, ?_, ?_, ?_, ?_⟩
  · have e1 : lv (tv X v) 167 = lv X 167 := lv_up (by omega)
    have e2 : cv (tv X v) 154 = cv X 154 := cv_up (by omega)
    rw [e1, e2]
    exact h10
  · have e1 : lv (tv X v) 190 = lv X 190 := lv_up (by omega)
    have e2 : cv (tv X v) 177 = cv X 177 := cv_up (by omega)
    rw [e1, e2]
    exact h11
  · have e1 : lv (tv X v) 61 = lv X 61 := lv_up (by omega)
    have e2 : cv (tv X v) 47 = cv X 47 := cv_up (by omega)
    rw [e1, e2]
    exact h12
  · exact WPs_lz h13 (fun old j => lv_up (by have := slot_ge old j; omega))
end REL
