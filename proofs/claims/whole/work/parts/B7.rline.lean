/-! THE TEXT OF A TOWN: the reference, LINES -/
section RLN
variable {G : ai_G} {d sl : Nat} {Q : List Value → Nat → Nat → ai_M → Prop} {Y : mY} {X : mX} {c : TC} {i P S : Nat} {D : TD}
def RT (X : mX) (Y : mY) (D : TD) (P S : Nat) : Prop := P ≤ 8 ∧ S ≤ 8 ∧ X 202 = D.1 ∧ D.1 0 = nI P ∧ D.1 1 = nI S ∧ (∀ q, q < P → Y 204 (16 + q) = lN (v8 (D.2.1 q)) ∧ WD (D.2.1 q)) ∧ (∀ q, q < S → Y 204 (24 + q) = lN (v8 (nmS D.2.1 q)) ∧ WD (nmS D.2.1 q)) ∧ X 199 20 = b01 (D.2.2.1 = true) ∧ X 199 21 = b01 (D.2.2.2 = true)
def RF (X : mX) (Y : mY) (X' : mX) (Y' : mY) : Prop := (∀ k, ¬ k = 199 → ¬ k = 202 → X' k = X k) ∧ (∀ k, ¬ k = 199 → ¬ k = 204 → Y' k = Y k) ∧ (∀ q, q < 16 → Y' 204 q = Y 204 q) ∧ (∀ j, ¬ j = 4 → ¬ (11 ≤ j ∧ j ≤ 16) → ¬ j = 18 → ¬ j = 20 → ¬ j = 21 → X' 199 j = X 199 j)
theorem RF.tr {X' X2 : mX} {Y' Y2 : mY} (h : RF X Y X' Y') (g : RF X' Y' X2 Y2) : RF X Y X2 Y2 := ⟨fun k a b => (g.1 k a b).trans (h.1 k a b), fun k a b => (g.2.1 k a b).trans (h.2.1 k a b), fun q a => (g.2.2.1 q a).trans (h.2.2.1 q a), fun j a b e f k => (g.2.2.2 j a b e f k).trans (h.2.2.2 j a b e f k)⟩
theorem RF_FE {F' : Nat → Int32} {W' : Nat → Int64} {h' : Nat → Int32} (h : FE (X 199) F') : RF X Y (va_up (va_up X 199 F') 202 h') (va_up Y 199 W') := by
  refine ⟨fun k a b => ?_, fun k a b => ?_, fun q a => ?_, fun j a b e f k => ?_⟩
  · simp only [va_up, a, b, if_false]
  · simp only [va_up, a, if_false]
  · simp [va_up]
  · simp only [va_up, show ¬ 199 = 202 by omega, if_false, if_true]; exact h j a b e
abbrev lineBad (Q : List Value → Nat → Nat → ai_M → Prop) (sl : Nat) (c : TC) (i : Nat) (D : TD) (X : mX) (Y : mY) (s : (Nat × Nat) ⊕ (Nat × TD)) : Prop := ∀ e j, s = .inl (e, j) → ∀ X' Y', RF X Y X' Y' → X' 199 15 = nI e → X' 199 16 = nI (cP c j) → Q [.int (nI 0)] 231 sl (mem X' Y')
abbrev lineOk (Q : List Value → Nat → Nat → ai_M → Prop) (sl : Nat) (c : TC) (i : Nat) (D : TD) (X : mX) (Y : mY) (s : (Nat × Nat) ⊕ (Nat × TD)) : Prop := ∀ i2 D2, s = .inr (i2, D2) → i2 ≤ c.2.1 → ∀ X' Y' P' S', RT X' Y' D2 P' S' → RF X Y X' Y' → RDR c i2 (X' 199) (Y' 199) → X' 199 15 = X 199 15 → Q [.int (nI 1)] 231 sl (mem X' Y')
/-- nothing but the reference's Reader (and got) has changed -/
def HX (X : mX) (Y : mY) (X' : mX) (Y' : mY) : Prop := (∀ k, ¬ k = 199 → X' k = X k) ∧ (∀ k, ¬ k = 199 → Y' k = Y k) ∧ FE (X 199) (X' 199)
theorem HX.tr {X' X2 : mX} {Y' Y2 : mY} (h : HX X Y X' Y') (g : HX X' Y' X2 Y2) : HX X Y X2 Y2 := ⟨fun k a => (g.1 k a).trans (h.1 k a), fun k a => (g.2.1 k a).trans (h.2.1 k a), h.2.2.tr g.2.2⟩
theorem HX.rf {X' : mX} {Y' : mY} (h : HX X Y X' Y') : RF X Y X' Y' := ⟨fun k a _ => h.1 k a, fun k a _ => h.2.1 k a, fun q _ => by rw [h.2.1 204 (by omega)], fun j a b e _ _ => h.2.2 j a b e⟩
theorem HX_F {F' : Nat → Int32} {W' : Nat → Int64} (h : FE (X 199) F') : HX X Y (va_up X 199 F') (va_up Y 199 W') := ⟨fun k a => by simp only [va_up, a, if_false], fun k a => by simp only [va_up, a, if_false], by rw [va_up_self]; exact h⟩
theorem HX_F0 {F' : Nat → Int32} (h : FE (X 199) F') : HX X Y (va_up X 199 F') Y := ⟨fun k a => by simp only [va_up, a, if_false], fun k a => rfl, by rw [va_up_self]; exact h⟩
abbrev gBad (Q : List Value → Nat → Nat → ai_M → Prop) (sl : Nat) (c : TC) (X : mX) (Y : mY) (e j : Nat) : Prop := ∀ X' Y', HX X Y X' Y' → X' 199 15 = nI e → X' 199 16 = nI (cP c j) → Q [.int (nI 0)] 231 sl (mem X' Y')
theorem Gnum {lo hi : Nat} (h : RDR c i (X 199) (Y 199)) (ok : OKr c X) (hi' : i ≤ c.2.1) (h1 : lo < 1000) (h2 : hi < 1000) (hQ1 : ∀ e j, sNum c lo hi i = .inl (e, j) → gBad Q sl c X Y e j) (hQ2 : ∀ a i2, sNum c lo hi i = .inr (a, i2) → a ≤ hi → i2 ≤ c.2.1 → ∀ X' Y', HX X Y X' Y' → RDR c i2 (X' 199) (Y' 199) → X' 199 18 = nI a → X' 199 15 = X 199 15 → Q [.int (nI 1)] 231 sl (mem X' Y')) : aw ET G (d + 2) 194 0 [some (.ref 199), some (.int (nI lo)), some (.int (nI hi))] [] 231 sl (mem X Y) Q := by
  have := rnum_s (G := G) (d := d) (sl := sl) (Q := Q) (X := X) (Y := Y) (F := X 199) (W := Y 199) h ok hi' h1 h2 (fun e j es F' b => by rw [va_id]; exact hQ1 e j es _ _ (HX_F0 b.2.2) (by rw [va_up_self]; exact b.1) (by rw [va_up_self]; exact b.2.1)) (fun a i2 es ha hi2 F' W' r e18 e15 f w => hQ2 a i2 es ha hi2 _ _ (HX_F f) (by rw [va_up_self, va_up_self]; exact r) (by rw [va_up_self]; exact e18) (by rw [va_up_self]; exact e15))
  rw [va_id, va_id] at this
  exact this
theorem Ggo (h : RDR c i (X 199) (Y 199)) (hk : ¬ cK c i = 1) (ok : OKr c X) (hi : i ≤ c.2.1) (hQ : ∀ X' Y', HX X Y X' Y' → RDR c (cA c i) (X' 199) (Y' 199) → X' 199 15 = X 199 15 → X' 199 18 = X 199 18 → Q [] 231 sl (mem X' Y')) : aw ET G (d + 1) 184 0 [some (.ref 199), none, none, none] [] 231 sl (mem X Y) Q := by
  have := go_s (G := G) (d := d) (sl := sl) (Q := Q) (X := X) (Y := Y) (F := X 199) (W := Y 199) h hk ok hi (fun F' W' r g w => hQ _ _ (HX_F g.fe) (by rw [va_up_self, va_up_self]; exact r) (by rw [va_up_self]; exact g 15 (by omega) (by omega)) (by rw [va_up_self]; exact g 18 (by omega) (by omega)))
  rw [va_id, va_id] at this
  exact this
theorem RDR_18 {F : Nat → Int32} {W : Nat → Int64} {v : Int32} (h : RDR c i F W) : RDR c i (upd F 18 v) W := RDR_cg h (by simp [upd]) (by simp [upd]) (by simp [upd]) (by simp [upd]) (by simp [upd]) (by simp [upd])
theorem FE_18 {F : Nat → Int32} {v : Int32} : FE F (upd F 18 v) := fun j _ _ c => by rw [pk_un c]
theorem Gone {nm : Nat → List Nat} (hR : ∀ k, k < 21 → Y 205 k = kl k) (h : RDR c i (X 199) (Y 199)) (ok : OKr c X) (hi : i ≤ c.2.1) (hP : P ≤ 8) (hk : X 202 0 = nI P) (hm : ∀ q, q < P → Y 204 (16 + q) = lN (v8 (nm q)) ∧ WD (nm q)) (hQ1 : ∀ e j, sOne c nm P i = .inl (e, j) → gBad Q sl c X Y e j) (hQ2 : ∀ k, sOne c nm P i = .inr k → k < P → ∀ X', HX X Y X' Y → RDR c i (X' 199) (Y 199) → X' 199 18 = nI k → X' 199 15 = X 199 15 → Q [.int (nI 1)] 231 sl (mem X' Y)) : aw ET G (d + 1) 196 0 [some (.ref 199)] [] 231 sl (mem X Y) Q := by
  have := rone_196 (G := G) (d := d) (sl := sl) (Q := Q) (X := X) (Y := Y) (F := X 199) (W := Y 199) hR h ok hi hP hk hm (fun e j es F' b => by rw [va_id]; exact hQ1 e j es _ _ (HX_F0 b.2.2) (by rw [va_up_self]; exact b.1) (by rw [va_up_self]; exact b.2.1)) (fun k es hk => by rw [va_id]; exact hQ2 k es hk _ (HX_F0 FE_18) (by rw [va_up_self]; exact RDR_18 h) (by rw [va_up_self]; simp [upd]) (by rw [va_up_self]; simp [upd]))
  rw [va_id, va_id] at this
  exact this
theorem Gname {nm : Nat → List Nat} {fr : Nat} (hfr : fr ≤ 24) (hR : ∀ k, k < 21 → Y 205 k = kl k) (h : RDR c i (X 199) (Y 199)) (ok : OKr c X) (hi : i ≤ c.2.1) (hP : P ≤ 8) (hm : ∀ q, q < P → Y 204 (fr + q) = lN (v8 (nm q)) ∧ WD (nm q)) (hQ1 : ∀ e j, sOne c nm P i = .inl (e, j) → gBad Q sl c X Y e j) (hQ2 : ∀ k, sOne c nm P i = .inr k → k < P → ∀ X', HX X Y X' Y → RDR c i (X' 199) (Y 199) → X' 199 18 = nI k → X' 199 15 = X 199 15 → Q [.int (nI 1)] 231 sl (mem X' Y)) : aw ET G (d + 1) 273 0 [some (.ref 199), some (.int (nI fr)), some (.int (nI P))] [] 231 sl (mem X Y) Q := by
  have := rone_273 (G := G) (d := d) (sl := sl) (Q := Q) (X := X) (Y := Y) (F := X 199) (W := Y 199) hR h ok hi hP hfr hm (fun e j es F' b => by rw [va_id]; exact hQ1 e j es _ _ (HX_F0 b.2.2) (by rw [va_up_self]; exact b.1) (by rw [va_up_self]; exact b.2.1)) (fun k es hk => by rw [va_id]; exact hQ2 k es hk _ (HX_F0 FE_18) (by rw [va_up_self]; exact RDR_18 h) (by rw [va_up_self]; simp [upd]) (by rw [va_up_self]; simp [upd]))
  rw [va_id, va_id] at this
  exact this
def NX (X : mX) (Y : mY) (X' : mX) (Y' : mY) (to : Nat) (v : Int64) : Prop := (∀ k, ¬ k = 199 → X' k = X k) ∧ (∀ k, ¬ k = 199 → ¬ k = 204 → Y' k = Y k) ∧ FE (X 199) (X' 199) ∧ Y' 204 = vp_updL (Y 204) to v
theorem NX.rf {X' : mX} {Y' : mY} {to : Nat} {v : Int64} (h : NX X Y X' Y' to v) (ht : 16 ≤ to) : RF X Y X' Y' := ⟨fun k a _ => h.1 k a, fun k a b => h.2.1 k a b, fun q _ => by rw [h.2.2.2, pk_uLn (by omega)], fun j a b e _ _ => h.2.2.1 j a b e⟩
theorem Gnew {nm : Nat → List Nat} {to : Nat} (hto : to < 32) (hR : ∀ k, k < 21 → Y 205 k = kl k) (h : RDR c i (X 199) (Y 199)) (ok : OKr c X) (hi : i ≤ c.2.1) (hP : P ≤ 8) (hS : S ≤ 8) (hk : X 202 0 = nI P) (hk2 : X 202 1 = nI S) (hm : ∀ q, q < P → Y 204 (16 + q) = lN (v8 (nm q)) ∧ WD (nm q)) (hm2 : ∀ q, q < S → Y 204 (24 + q) = lN (v8 (nmS nm q)) ∧ WD (nmS nm q)) (hQ1 : ∀ e j, sNew c nm P S i = .inl (e, j) → gBad Q sl c X Y e j) (hQ2 : sNew c nm P S i = .inr (cW c i, cA c i) → WD (cW c i) → ∀ X' Y', NX X Y X' Y' to (lN (v8 (cW c i))) → RDR c (cA c i) (X' 199) (Y' 199) → X' 199 15 = X 199 15 → Q [.int (nI 1)] 231 sl (mem X' Y')) : aw ET G (d + 2) 191 0 [some (.ref 199), some (.int (nI to))] [] 231 sl (mem X Y) Q := by
  have := rnew_s (G := G) (d := d) (sl := sl) (Q := Q) (X := X) (Y := Y) (F := X 199) (W := Y 199) hto hR h ok hi hP hS hk hk2 hm hm2 (fun e j es F' b => by rw [va_id]; exact hQ1 e j es _ _ (HX_F0 b.2.2) (by rw [va_up_self]; exact b.1) (by rw [va_up_self]; exact b.2.1)) (fun es hw F' W' r g w => hQ2 es hw _ _ ⟨fun k a => by simp only [va_up, a, if_false], fun k a b => by simp only [va_up, a, b, if_false], by rw [va_up_self]; exact g.fe, by rw [va_up_self]⟩ (by rw [va_up_self, va_up_ne _ _ (by omega), va_up_self]; exact r) (by rw [va_up_self]; exact g 15 (by omega) (by omega)))
  rw [va_id, va_id] at this
  exact this
theorem Gbad {e : Nat} (h : RDR c i (X 199) (Y 199)) (hQ : gBad Q sl c X Y e i) : aw ET G d 190 0 [some (.ref 199), some (.int (nI e))] [] 231 sl (mem X Y) Q := by
  have := bad_eq (G := G) (d := d) (sl := sl) (Q := Q) (X := X) (Y := Y) (F := X 199) (x := nI e)
  rw [va_id] at this
  rw [this]
  have b := BD_at h e
  exact hQ _ _ (HX_F0 b.2.2) (by rw [va_up_self]; exact b.1) (by rw [va_up_self]; exact b.2.1)
theorem GW {j : Nat} (hj : j < 21) (h : RDR c i (X 199) (Y 199)) (ok : OKr c X) (hi : i ≤ c.2.1) : aw ET G d 189 0 [some (.ref 199), some (.long (kl j)), none] [] 231 sl (mem X Y) Q = Q [.int (b01 (cY c i = j))] 231 sl (mem X Y) := by
  have := isW_eq (G := G) (d := d) (sl := sl) (Q := Q) (X := X) (Y := Y) (F := X 199) (W := Y 199) hj h ok hi
  rw [va_id, va_id] at this
  exact this
theorem GS {v : Nat} (hv : 4 ≤ v) (hv2 : v < 256) (h : RDR c i (X 199) (Y 199)) (ok : OKr c X) (hi : i ≤ c.2.1) : aw ET G d 198 0 [some (.ref 199), some (.int (nI v))] [] 231 sl (mem X Y) Q = Q [.int (b01 (cK c i = v))] 231 sl (mem X Y) := by
  have := isS_eq (G := G) (d := d) (sl := sl) (Q := Q) (X := X) (Y := Y) (F := X 199) (W := Y 199) hv hv2 h ok hi
  rw [va_id] at this
  exact this
theorem Gsign {v : Nat} (hv : 4 ≤ v) (hv2 : v < 256) (h : RDR c i (X 199) (Y 199)) (ok : OKr c X) (hi : i ≤ c.2.1) (hQ1 : ¬ cK c i = v → gBad Q sl c X Y 1 i) (hQ2 : cK c i = v → ∀ X' Y', HX X Y X' Y' → RDR c (cA c i) (X' 199) (Y' 199) → X' 199 15 = X 199 15 → Q [.int (nI 1)] 231 sl (mem X' Y')) : aw ET G (d + 2) 197 0 [some (.ref 199), some (.int (nI v))] [] 231 sl (mem X Y) Q := by
  have := sign_s (G := G) (d := d) (sl := sl) (Q := Q) (X := X) (Y := Y) (F := X 199) (W := Y 199) hv hv2 h ok hi (fun e F' b => by rw [va_id]; exact hQ1 e _ _ (HX_F0 b.2.2) (by rw [va_up_self]; exact b.1) (by rw [va_up_self]; exact b.2.1)) (fun e F' W' r g w => hQ2 e _ _ (HX_F g.fe) (by rw [va_up_self, va_up_self]; exact r) (by rw [va_up_self]; exact g 15 (by omega) (by omega)))
  rw [va_id, va_id] at this
  exact this
theorem OKr_cg {X' : mX} (ok : OKr c X) (h : X' 200 = X 200) : OKr c X' := ⟨by rw [h]; exact ok.1, ok.2⟩
theorem RF_F {F' : Nat → Int32} {W' : Nat → Int64} (h : FE (X 199) F') : RF X Y (va_up X 199 F') (va_up Y 199 W') := by
  refine ⟨fun k a b => ?_, fun k a b => ?_, fun q a => ?_, fun j a b e f k => ?_⟩
  · simp only [va_up, a, if_false]
  · simp only [va_up, a, if_false]
  · simp [va_up]
  · simp only [va_up, if_true]; exact h j a b e
theorem RF_F0 {F' : Nat → Int32} (h : FE (X 199) F') : RF X Y (va_up X 199 F') Y := by
  have := RF_F (X := X) (Y := Y) (W' := Y 199) h
  rwa [va_id] at this
theorem RF_h {h' : Nat → Int32} : RF X Y (va_up X 202 h') Y := ⟨fun k _ b => by simp only [va_up, b, if_false], fun _ _ _ => rfl, fun _ _ => rfl, fun j _ _ _ _ _ => by simp [va_up]⟩
theorem RF_N {k : Nat} {v : Int64} (hk : 16 ≤ k) : RF X Y X (va_up Y 204 (vp_updL (Y 204) k v)) := ⟨fun _ _ _ => rfl, fun k _ b => by simp only [va_up, b, if_false], fun q a => by simp only [va_up, if_true]; rw [pk_uLn (by omega)], fun _ _ _ _ _ _ => rfl⟩
theorem RF_refl : RF X Y X Y := ⟨fun _ _ _ => rfl, fun _ _ _ => rfl, fun _ _ => rfl, fun _ _ _ _ _ _ => rfl⟩
end RLN
