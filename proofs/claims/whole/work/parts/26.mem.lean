/-! THE MEMORY AS NUMBERS, after the constructors: X the ints by cell and place, Y the longs -/
section MEM
def fdL : List (List Nat) := [[2, 2, 2, 2, 0, 0, 0, 0, 0, 0], [2, 2, 2, 2, 2, 2, 2, 0, 0, 0, 0, 0, 0], [2, 2, 0, 0], [2, 2, 2, 2, 2, 2, 2, 2, 2, 0, 0, 0, 0, 0], [2, 2, 2, 0], [2, 0, 0], [2, 2, 2], [3, 0, 0, 0, 0, 0, 0, 1, 0, 0], [2, 2, 2, 2, 0, 0], [2, 2, 2, 0, 0, 0, 0], [0, 0], [2, 2, 2, 2, 2, 2, 2, 2, 2, 2, 2, 2, 2, 2, 0, 0, 0, 0], [0, 2, 0, 0, 0, 0, 2, 2, 2, 2, 2, 0, 0, 0, 0, 0, 0, 1, 0, 0, 0, 0, 2, 2, 0, 0, 2, 2, 0, 0, 0, 2, 2, 2, 0, 2, 2, 2, 0, 2, 2, 2, 2, 2, 0, 0, 0, 2, 2, 2, 0, 0, 0, 2, 0, 2, 0, 0, 0, 0, 0, 2, 2, 2, 2]]
def fdC (ci : Nat) : List Nat := fdL.getD ci []
def shL : List (Nat × Nat × List Nat) := [(6, 11, [1, 2, 4, 55, 5, 28, 29, 70, 79, 30, 35, 38, 42, 46, 0, 0, 0, 0]), (1, 940, []), (6, 7, [0, 0, 0, 0, 0, 0, 0, 0, 0, 0]), (1, 0, []), (6, 10, [0, 0]), (6, 6, [6, 19, 14]), (6, 1, [7, 8, 9, 10, 11, 12, 13, 0, 0, 0, 0, 0, 0]), (3, 8, []), (0, 8, []), (0, 8, []), (3, 8, []), (0, 8, []), (0, 8, []), (0, 8, []), (6, 8, [15, 16, 17, 18, 0, 0]), (0, 40, []), (0, 40, []), (0, 40, []), (0, 40, []), (6, 3, [6, 20, 21, 22, 23, 24, 25, 26, 27, 0, 0, 0, 0, 0]), (0, 8, []), (0, 8, []), (0, 8, []), (0, 8, []), (0, 64, []), (0, 8, []), (0, 8, []), (0, 8, []), (4, 2, [153, 176]), (2, 2, []), (6, 0, [31, 32, 33, 34, 0, 0, 0, 0, 0, 0]), (0, 30, []), (0, 30, []), (0, 30, []), (0, 30, []), (6, 2, [36, 37, 0, 0]), (0, 8, []), (0, 8, []), (6, 4, [39, 40, 41, 0]), (0, 8, []), (0, 8, []), (0, 8, []), (6, 9, [43, 44, 45, 0, 0, 0, 0]), (0, 6, []), (0, 3, []), (0, 3, []), (0, 8, []), (6, 1, [48, 49, 50, 51, 52, 53, 54, 0, 0, 0, 0, 0, 0]), (3, 8, []), (0, 8, []), (0, 8, []), (3, 8, []), (0, 8, []), (0, 8, []), (0, 8, []), (6, 6, [47, 61, 56]), (6, 8, [57, 58, 59, 60, 0, 0]), (0, 40, []), (0, 40, []), (0, 40, []), (0, 40, []), (6, 3, [47, 62, 63, 64, 65, 66, 67, 68, 69, 0, 0, 0, 0, 0]), (0, 8, []), (0, 8, []), (0, 8, []), (0, 8, []), (0, 64, []), (0, 8, []), (0, 8, []), (0, 8, []), (6, 3, [47, 71, 72, 73, 74, 75, 76, 77, 78, 0, 0, 0, 0, 0]), (0, 8, []), (0, 8, []), (0, 8, []), (0, 8, []), (0, 64, []), (0, 8, []), (0, 8, []), (0, 8, []), (6, 5, [80, 0, 0]), (5, 8, [81, 90, 99, 108, 117, 126, 135, 144]), (6, 3, [47, 82, 83, 84, 85, 86, 87, 88, 89, 0, 0, 0, 0, 0]), (0, 8, []), (0, 8, []), (0, 8, []), (0, 8, []), (0, 64, []), (0, 8, []), (0, 8, []), (0, 8, []), (6, 3, [47, 91, 92, 93, 94, 95, 96, 97, 98, 0, 0, 0, 0, 0]), (0, 8, []), (0, 8, []), (0, 8, []), (0, 8, []), (0, 64, []), (0, 8, []), (0, 8, []), (0, 8, []), (6, 3, [47, 100, 101, 102, 103, 104, 105, 106, 107, 0, 0, 0, 0, 0]), (0, 8, []), (0, 8, []), (0, 8, []), (0, 8, []), (0, 64, []), (0, 8, []), (0, 8, []), (0, 8, []), (6, 3, [47, 109, 110, 111, 112, 113, 114, 115, 116, 0, 0, 0, 0, 0]), (0, 8, []), (0, 8, []), (0, 8, []), (0, 8, []), (0, 64, []), (0, 8, []), (0, 8, []), (0, 8, []), (6, 3, [47, 118, 119, 120, 121, 122, 123, 124, 125, 0, 0, 0, 0, 0]), (0, 8, []), (0, 8, []), (0, 8, []), (0, 8, []), (0, 64, []), (0, 8, []), (0, 8, []), (0, 8, []), (6, 3, [47, 127, 128, 129, 130, 131, 132, 133, 134, 0, 0, 0, 0, 0]), (0, 8, []), (0, 8, []), (0, 8, []), (0, 8, []), (0, 64, []), (0, 8, []), (0, 8, []), (0, 8, []), (6, 3, [47, 136, 137, 138, 139, 140, 141, 142, 143, 0, 0, 0, 0, 0]), (0, 8, []), (0, 8, []), (0, 8, []), (0, 8, []), (0, 64, []), (0, 8, []), (0, 8, []), (0, 8, []), (6, 3, [47, 145, 146, 147, 148, 149, 150, 151, 152, 0, 0, 0, 0, 0]), (0, 8, []), (0, 8, []), (0, 8, []), (0, 8, []), (0, 64, []), (0, 8, []), (0, 8, []), (0, 8, []), (6, 6, [154, 167, 162]), (6, 1, [155, 156, 157, 158, 159, 160, 161, 0, 0, 0, 0, 0, 0]), (3, 8, []), (0, 8, []), (0, 8, []), (3, 8, []), (0, 8, []), (0, 8, []), (0, 8, []), (6, 8, [163, 164, 165, 166, 0, 0]), (0, 40, []), (0, 40, []), (0, 40, []), (0, 40, []), (6, 3, [154, 168, 169, 170, 171, 172, 173, 174, 175, 0, 0, 0, 0, 0]), (0, 8, []), (0, 8, []), (0, 8, []), (0, 8, []), (0, 64, []), (0, 8, []), (0, 8, []), (0, 8, []), (6, 6, [177, 190, 185]), (6, 1, [178, 179, 180, 181, 182, 183, 184, 0, 0, 0, 0, 0, 0]), (3, 8, []), (0, 8, []), (0, 8, []), (3, 8, []), (0, 8, []), (0, 8, []), (0, 8, []), (6, 8, [186, 187, 188, 189, 0, 0]), (0, 40, []), (0, 40, []), (0, 40, []), (0, 40, []), (6, 3, [177, 191, 192, 193, 194, 195, 196, 197, 198, 0, 0, 0, 0, 0]), (0, 8, []), (0, 8, []), (0, 8, []), (0, 8, []), (0, 64, []), (0, 8, []), (0, 8, []), (0, 8, []), (6, 12, [0, 200, 0, 0, 0, 0, 201, 202, 203, 204, 205, 0, 0, 0, 0, 0, 0, 0, 0, 0, 0, 0, 206, 207, 0, 0, 208, 209, 0, 0, 0, 210, 211, 212, 0, 213, 214, 215, 0, 216, 217, 218, 219, 220, 0, 0, 0, 221, 222, 223, 0, 0, 0, 224, 0, 225, 0, 0, 0, 0, 0, 226, 227, 228, 229]), (1, 940, []), (0, 438, []), (0, 132, []), (0, 135, []), (3, 32, []), (3, 21, []), (0, 9, []), (0, 8, []), (0, 1000, []), (0, 125, []), (0, 8, []), (0, 8, []), (0, 8, []), (0, 8, []), (0, 8, []), (0, 8, []), (0, 90, []), (0, 90, []), (0, 90, []), (0, 8, []), (0, 3, []), (0, 3, []), (0, 3, []), (0, 3, []), (0, 4, []), (0, 45, []), (2, 45, []), (0, 876, []), (3, 32, []), (2, 2, []), (3, 1, [])]
def shC (k : Nat) : Nat × Nat × List Nat := shL.getD k (9, 0, [])
abbrev mX : Type := Nat → Nat → Int32
abbrev mY : Type := Nat → Nat → Int64
def memF (X : mX) (Y : mY) (k : Nat) (rs : List Nat) : Nat → List Nat → List Value
  | _, [] => []
  | j, 0 :: l => .int (X k j) :: memF X Y k rs (j + 1) l
  | j, 1 :: l => .long (Y k j) :: memF X Y k rs (j + 1) l
  | j, 2 :: l => .ref (rs.getD j 0) :: memF X Y k rs (j + 1) l
  | j, _ :: l => .ref (if X k j = 0 then 3 else 1) :: memF X Y k rs (j + 1) l
def memE (X : mX) (Y : mY) (k : Nat) (s : Nat × Nat × List Nat) : va_E := match s with
  | (0, N, _) => .inl (0, N, .inl (X k))
  | (1, N, _) => .inl (1, N, .inl (X k))
  | (2, N, _) => .inl (2, N, .inl (X k))
  | (3, N, _) => .inl (3, N, .inr (.inl (Y k)))
  | (4, N, rs) => .inl (4, N, .inr (.inr (.inr (.inr fun i => rs[i]?))))
  | (5, N, rs) => .inl (5, N, .inr (.inr (.inr (.inr fun i => rs[i]?))))
  | (6, ci, rs) => .inr (ci, memF X Y k rs 0 (fdC ci))
  | _ => .inr (99, [])
def mem (X : mX) (Y : mY) : ai_M := fun k => memE X Y k (shC k)
theorem memF_len (X : mX) (Y : mY) (k : Nat) (rs : List Nat) : ∀ (l : List Nat) (j : Nat), (memF X Y k rs j l).length = l.length := by
  intro l
  induction l with
  | nil => intro j; rfl
  | cons a l ih =>
    intro j
    match a with
    | 0 => simp [memF, ih]
    | 1 => simp [memF, ih]
    | 2 => simp [memF, ih]
    | a + 3 => simp [memF, ih]
theorem memF_same {X X' : mX} {Y Y' : mY} {k : Nat} {rs : List Nat} : ∀ (l : List Nat) (j : Nat), (∀ i, j ≤ i → X' k i = X k i) → (∀ i, j ≤ i → Y' k i = Y k i) → memF X' Y' k rs j l = memF X Y k rs j l := by
  intro l
  induction l with
  | nil => intro j _ _; rfl
  | cons a l ih =>
    intro j hx hy
    have := ih (j + 1) (fun i hi => hx i (by omega)) (fun i hi => hy i (by omega))
    have e1 := hx j (by omega)
    have e2 := hy j (by omega)
    match a with
    | 0 => simp [memF, this, e1]
    | 1 => simp [memF, this, e2]
    | 2 => simp [memF, this]
    | a + 3 => simp [memF, this, e1]
theorem memF_set {X : mX} {Y : mY} {k : Nat} {rs : List Nat} {v : Int32} : ∀ (l : List Nat) (j q : Nat), l[q]? = some 0 → (memF X Y k rs j l).set q (.int v) = memF (va_up X k (upd (X k) (j + q) v)) Y k rs j l := by
  intro l
  induction l with
  | nil => intro j q h; simp at h
  | cons a l ih =>
    intro j q h
    cases q with
    | zero =>
      simp at h
      subst h
      simp only [memF, List.set_cons_zero]
      have : memF (va_up X k (upd (X k) (j + 0) v)) Y k rs (j + 1) l = memF X Y k rs (j + 1) l := memF_same l _ (fun i hi => by simp [va_up, upd, show ¬ i = j by omega]) (fun _ _ => rfl)
      rw [this]
      simp [va_up, upd]
    | succ q =>
      have := ih (j + 1) q (by simpa using h)
      rw [show j + 1 + q = j + (q + 1) by omega] at this
      have ne : ¬ j = j + (q + 1) := by omega
      match a with
      | 0 => simp [memF, this, va_up, upd, ne]
      | 1 => simp [memF, this, va_up, upd, ne]
      | 2 => simp [memF, this]
      | a + 3 => simp [memF, this, va_up, upd, ne]
theorem memF_setL {X : mX} {Y : mY} {k : Nat} {rs : List Nat} {v : Int64} : ∀ (l : List Nat) (j q : Nat), l[q]? = some 1 → (memF X Y k rs j l).set q (.long v) = memF X (va_up Y k (vp_updL (Y k) (j + q) v)) k rs j l := by
  intro l
  induction l with
  | nil => intro j q h; simp at h
  | cons a l ih =>
    intro j q h
    cases q with
    | zero =>
      simp at h
      subst h
      simp only [memF, List.set_cons_zero]
      have : memF X (va_up Y k (vp_updL (Y k) (j + 0) v)) k rs (j + 1) l = memF X Y k rs (j + 1) l := memF_same l _ (fun _ _ => rfl) (fun i hi => by simp [va_up, vp_updL, show ¬ i = j by omega])
      rw [this]
      simp [va_up, vp_updL]
    | succ q =>
      have := ih (j + 1) q (by simpa using h)
      rw [show j + 1 + q = j + (q + 1) by omega] at this
      have ne : ¬ j = j + (q + 1) := by omega
      match a with
      | 0 => simp [memF, this]
      | 1 => simp [memF, this, va_up, vp_updL, ne]
      | 2 => simp [memF, this]
      | a + 3 => simp [memF, this]
theorem memE_ne {X : mX} {Y : mY} {k j : Nat} {f : Nat → Int32} {s : Nat × Nat × List Nat} (h : ¬ j = k) : memE (va_up X k f) Y j s = memE X Y j s := by
  have : va_up X k f j = X j := by simp [va_up, h]
  unfold memE
  split <;> first | (simp only [this]; done) | rfl | rw [memF_same _ _ (fun i _ => by rw [this]) (fun _ _ => rfl)]
theorem memE_neL {X : mX} {Y : mY} {k j : Nat} {f : Nat → Int64} {s : Nat × Nat × List Nat} (h : ¬ j = k) : memE X (va_up Y k f) j s = memE X Y j s := by
  have : va_up Y k f j = Y j := by simp [va_up, h]
  unfold memE
  split <;> first | (simp only [this]; done) | rfl | rw [memF_same _ _ (fun _ _ => rfl) (fun i _ => by rw [this])]
theorem mup_of {X : mX} {Y : mY} {k : Nat} {f : Nat → Int32} {e : va_E} (h : e = memE (va_up X k f) Y k (shC k)) : va_up (mem X Y) k e = mem (va_up X k f) Y := by
  funext j
  by_cases hj : j = k
  · subst hj; simp [va_up] at h ⊢; rw [h]; rfl
  · show (if j = k then e else mem X Y j) = _
    rw [if_neg hj]
    exact (memE_ne hj).symm
theorem mup_ofL {X : mX} {Y : mY} {k : Nat} {f : Nat → Int64} {e : va_E} (h : e = memE X (va_up Y k f) k (shC k)) : va_up (mem X Y) k e = mem X (va_up Y k f) := by
  funext j
  by_cases hj : j = k
  · subst hj; simp [va_up] at h ⊢; rw [h]; rfl
  · show (if j = k then e else mem X Y j) = _
    rw [if_neg hj]
    exact (memE_neL hj).symm
theorem mup_f {X : mX} {Y : mY} {k ci q : Nat} {rs : List Nat} {v : Int32} (hs : shC k = (6, ci, rs)) (hq : (fdC ci)[q]? = some 0) : va_up (mem X Y) k (.inr (ci, (memF X Y k rs 0 (fdC ci)).set q (.int v))) = mem (va_up X k (upd (X k) q v)) Y := by
  apply mup_of
  rw [hs, memF_set _ 0 q hq, Nat.zero_add]
  rfl
theorem mup_fL {X : mX} {Y : mY} {k ci q : Nat} {rs : List Nat} {v : Int64} (hs : shC k = (6, ci, rs)) (hq : (fdC ci)[q]? = some 1) : va_up (mem X Y) k (.inr (ci, (memF X Y k rs 0 (fdC ci)).set q (.long v))) = mem X (va_up Y k (vp_updL (Y k) q v)) := by
  apply mup_ofL
  rw [hs, memF_setL _ 0 q hq, Nat.zero_add]
  rfl
theorem va_up_up {α : Type} (f : Nat → α) (k : Nat) (a b : α) : va_up (va_up f k a) k b = va_up f k b := by
  funext j; simp only [va_up]; split <;> rfl
theorem va_up_comm {α : Type} (f : Nat → α) (k j : Nat) (a b : α) (h : j < k) : va_up (va_up f k a) j b = va_up (va_up f j b) k a := by
  funext i; simp only [va_up]; split <;> split <;> first | rfl | omega
/-- a field of ints is written -/
theorem aw_pf {G : ai_G} {d mi pc j ci q o sl : Nat} {rs : List Nat} {L : ai_L} {st : List Value} {v : Int32} {X : mX} {Y : mY} {Q : List Value → Nat → Nat → ai_M → Prop} (hd : ai_dec ET mi pc = some (.putfield j, 3)) (hp : ai_pool ET (ai_own ET mi) j = some (0, ci, q, 0)) (hs : shC o = (6, ci, rs)) (hq : (fdC ci)[q]? = some 0) (ho : o < 231) (hn : q < ai_nf ET ci) (hl : (fdC ci).length = ai_nf ET ci) (ht : ai_ft (ai_fty ET ci q) (.int v) = true) : aw ET G d mi pc L (.int v :: .ref o :: st) 231 sl (mem X Y) Q = aw ET G d mi (pc + 3) L st 231 sl (mem (va_up X o (upd (X o) q v)) Y) Q := by
  have hm : mem X Y o = .inr (ci, memF X Y o rs 0 (fdC ci)) := by show memE X Y o (shC o) = _; rw [hs]; rfl
  rw [aw_eq hd]
  simp only [aw_st, ai_cls, ai_len, if_true, ai_m, hp, ho, true_and, true_or, hm, hn, memF_len, hl, ht, and_self]
  rw [mup_f hs hq]
theorem aw_pfL {G : ai_G} {d mi pc j ci q o sl : Nat} {rs : List Nat} {L : ai_L} {st : List Value} {v : Int64} {X : mX} {Y : mY} {Q : List Value → Nat → Nat → ai_M → Prop} (hd : ai_dec ET mi pc = some (.putfield j, 3)) (hp : ai_pool ET (ai_own ET mi) j = some (0, ci, q, 0)) (hs : shC o = (6, ci, rs)) (hq : (fdC ci)[q]? = some 1) (ho : o < 231) (hn : q < ai_nf ET ci) (hl : (fdC ci).length = ai_nf ET ci) (ht : ai_ft (ai_fty ET ci q) (.long v) = true) : aw ET G d mi pc L (.long v :: .ref o :: st) 231 sl (mem X Y) Q = aw ET G d mi (pc + 3) L st 231 sl (mem X (va_up Y o (vp_updL (Y o) q v))) Q := by
  have hm : mem X Y o = .inr (ci, memF X Y o rs 0 (fdC ci)) := by show memE X Y o (shC o) = _; rw [hs]; rfl
  rw [aw_eq hd]
  simp only [aw_st, ai_cls, ai_len, if_true, ai_m, hp, ho, true_and, true_or, hm, hn, memF_len, hl, ht, and_self]
  rw [mup_fL hs hq]
/-- the Reader's text is the tape from the first text on -/
theorem aw_pfT {G : ai_G} {d mi pc j sl : Nat} {L : ai_L} {st : List Value} {X : mX} {Y : mY} {Q : List Value → Nat → Nat → ai_M → Prop} (hd : ai_dec ET mi pc = some (.putfield j, 3)) (hp : ai_pool ET (ai_own ET mi) j = some (0, 7, 0, 0)) : aw ET G d mi pc L (.ref 1 :: .ref 2 :: st) 231 sl (mem X Y) Q = aw ET G d mi (pc + 3) L st 231 sl (mem (va_up X 2 (upd (X 2) 0 1)) Y) Q := by
  have hm : mem X Y 2 = .inr (7, memF X Y 2 [0, 0, 0, 0, 0, 0, 0, 0, 0, 0] 0 (fdC 7)) := rfl
  have hn : ai_nf ET 7 = 10 := by decide +kernel
  have ht : ai_ft (ai_fty ET 7 0) (.ref 1) = true := rfl
  rw [aw_eq hd]
  simp only [aw_st, ai_cls, ai_len, if_true, ai_m, hp, true_and, true_or, hm, hn, memF_len, ht, and_self]
  have e : va_up (mem X Y) 2 (.inr (7, (memF X Y 2 [0, 0, 0, 0, 0, 0, 0, 0, 0, 0] 0 (fdC 7)).set 0 (.ref 1))) = mem (va_up X 2 (upd (X 2) 0 1)) Y := mup_of rfl
  rw [e]
  rfl
theorem mm0 (X : mX) (Y : mY) : mem X Y 0 = .inr (11, [.ref 1, .ref 2, .ref 4, .ref 55, .ref 5, .ref 28, .ref 29, .ref 70, .ref 79, .ref 30, .ref 35, .ref 38, .ref 42, .ref 46, .int (X 0 14), .int (X 0 15), .int (X 0 16), .int (X 0 17)]) := rfl
theorem mm1 (X : mX) (Y : mY) : mem X Y 1 = .inl (1, 940, .inl (X 1)) := rfl
theorem mm2 (X : mX) (Y : mY) : mem X Y 2 = .inr (7, [.ref (if X 2 0 = 0 then 3 else 1), .int (X 2 1), .int (X 2 2), .int (X 2 3), .int (X 2 4), .int (X 2 5), .int (X 2 6), .long (Y 2 7), .int (X 2 8), .int (X 2 9)]) := rfl
theorem mm3 (X : mX) (Y : mY) : mem X Y 3 = .inl (1, 0, .inl (X 3)) := rfl
theorem mm4 (X : mX) (Y : mY) : mem X Y 4 = .inr (10, [.int (X 4 0), .int (X 4 1)]) := rfl
theorem mm5 (X : mX) (Y : mY) : mem X Y 5 = .inr (6, [.ref 6, .ref 19, .ref 14]) := rfl
theorem mm6 (X : mX) (Y : mY) : mem X Y 6 = .inr (1, [.ref 7, .ref 8, .ref 9, .ref 10, .ref 11, .ref 12, .ref 13, .int (X 6 7), .int (X 6 8), .int (X 6 9), .int (X 6 10), .int (X 6 11), .int (X 6 12)]) := rfl
theorem mm7 (X : mX) (Y : mY) : mem X Y 7 = .inl (3, 8, .inr (.inl (Y 7))) := rfl
theorem mm8 (X : mX) (Y : mY) : mem X Y 8 = .inl (0, 8, .inl (X 8)) := rfl
theorem mm9 (X : mX) (Y : mY) : mem X Y 9 = .inl (0, 8, .inl (X 9)) := rfl
theorem mm10 (X : mX) (Y : mY) : mem X Y 10 = .inl (3, 8, .inr (.inl (Y 10))) := rfl
theorem mm11 (X : mX) (Y : mY) : mem X Y 11 = .inl (0, 8, .inl (X 11)) := rfl
theorem mm12 (X : mX) (Y : mY) : mem X Y 12 = .inl (0, 8, .inl (X 12)) := rfl
theorem mm13 (X : mX) (Y : mY) : mem X Y 13 = .inl (0, 8, .inl (X 13)) := rfl
theorem mm14 (X : mX) (Y : mY) : mem X Y 14 = .inr (8, [.ref 15, .ref 16, .ref 17, .ref 18, .int (X 14 4), .int (X 14 5)]) := rfl
theorem mm15 (X : mX) (Y : mY) : mem X Y 15 = .inl (0, 40, .inl (X 15)) := rfl
theorem mm16 (X : mX) (Y : mY) : mem X Y 16 = .inl (0, 40, .inl (X 16)) := rfl
theorem mm17 (X : mX) (Y : mY) : mem X Y 17 = .inl (0, 40, .inl (X 17)) := rfl
theorem mm18 (X : mX) (Y : mY) : mem X Y 18 = .inl (0, 40, .inl (X 18)) := rfl
theorem mm19 (X : mX) (Y : mY) : mem X Y 19 = .inr (3, [.ref 6, .ref 20, .ref 21, .ref 22, .ref 23, .ref 24, .ref 25, .ref 26, .ref 27, .int (X 19 9), .int (X 19 10), .int (X 19 11), .int (X 19 12), .int (X 19 13)]) := rfl
theorem mm20 (X : mX) (Y : mY) : mem X Y 20 = .inl (0, 8, .inl (X 20)) := rfl
theorem mm21 (X : mX) (Y : mY) : mem X Y 21 = .inl (0, 8, .inl (X 21)) := rfl
theorem mm22 (X : mX) (Y : mY) : mem X Y 22 = .inl (0, 8, .inl (X 22)) := rfl
theorem mm23 (X : mX) (Y : mY) : mem X Y 23 = .inl (0, 8, .inl (X 23)) := rfl
theorem mm24 (X : mX) (Y : mY) : mem X Y 24 = .inl (0, 64, .inl (X 24)) := rfl
theorem mm25 (X : mX) (Y : mY) : mem X Y 25 = .inl (0, 8, .inl (X 25)) := rfl
theorem mm26 (X : mX) (Y : mY) : mem X Y 26 = .inl (0, 8, .inl (X 26)) := rfl
theorem mm27 (X : mX) (Y : mY) : mem X Y 27 = .inl (0, 8, .inl (X 27)) := rfl
theorem mm28 (X : mX) (Y : mY) : mem X Y 28 = .inl (4, 2, .inr (.inr (.inr (.inr fun i => ([153, 176] : List Nat)[i]?)))) := rfl
theorem mm29 (X : mX) (Y : mY) : mem X Y 29 = .inl (2, 2, .inl (X 29)) := rfl
theorem mm30 (X : mX) (Y : mY) : mem X Y 30 = .inr (0, [.ref 31, .ref 32, .ref 33, .ref 34, .int (X 30 4), .int (X 30 5), .int (X 30 6), .int (X 30 7), .int (X 30 8), .int (X 30 9)]) := rfl
theorem mm31 (X : mX) (Y : mY) : mem X Y 31 = .inl (0, 30, .inl (X 31)) := rfl
theorem mm32 (X : mX) (Y : mY) : mem X Y 32 = .inl (0, 30, .inl (X 32)) := rfl
theorem mm33 (X : mX) (Y : mY) : mem X Y 33 = .inl (0, 30, .inl (X 33)) := rfl
theorem mm34 (X : mX) (Y : mY) : mem X Y 34 = .inl (0, 30, .inl (X 34)) := rfl
theorem mm35 (X : mX) (Y : mY) : mem X Y 35 = .inr (2, [.ref 36, .ref 37, .int (X 35 2), .int (X 35 3)]) := rfl
theorem mm36 (X : mX) (Y : mY) : mem X Y 36 = .inl (0, 8, .inl (X 36)) := rfl
theorem mm37 (X : mX) (Y : mY) : mem X Y 37 = .inl (0, 8, .inl (X 37)) := rfl
theorem mm38 (X : mX) (Y : mY) : mem X Y 38 = .inr (4, [.ref 39, .ref 40, .ref 41, .int (X 38 3)]) := rfl
theorem mm39 (X : mX) (Y : mY) : mem X Y 39 = .inl (0, 8, .inl (X 39)) := rfl
theorem mm40 (X : mX) (Y : mY) : mem X Y 40 = .inl (0, 8, .inl (X 40)) := rfl
theorem mm41 (X : mX) (Y : mY) : mem X Y 41 = .inl (0, 8, .inl (X 41)) := rfl
theorem mm42 (X : mX) (Y : mY) : mem X Y 42 = .inr (9, [.ref 43, .ref 44, .ref 45, .int (X 42 3), .int (X 42 4), .int (X 42 5), .int (X 42 6)]) := rfl
theorem mm43 (X : mX) (Y : mY) : mem X Y 43 = .inl (0, 6, .inl (X 43)) := rfl
theorem mm44 (X : mX) (Y : mY) : mem X Y 44 = .inl (0, 3, .inl (X 44)) := rfl
theorem mm45 (X : mX) (Y : mY) : mem X Y 45 = .inl (0, 3, .inl (X 45)) := rfl
theorem mm46 (X : mX) (Y : mY) : mem X Y 46 = .inl (0, 8, .inl (X 46)) := rfl
theorem mm47 (X : mX) (Y : mY) : mem X Y 47 = .inr (1, [.ref 48, .ref 49, .ref 50, .ref 51, .ref 52, .ref 53, .ref 54, .int (X 47 7), .int (X 47 8), .int (X 47 9), .int (X 47 10), .int (X 47 11), .int (X 47 12)]) := rfl
theorem mm48 (X : mX) (Y : mY) : mem X Y 48 = .inl (3, 8, .inr (.inl (Y 48))) := rfl
theorem mm49 (X : mX) (Y : mY) : mem X Y 49 = .inl (0, 8, .inl (X 49)) := rfl
theorem mm50 (X : mX) (Y : mY) : mem X Y 50 = .inl (0, 8, .inl (X 50)) := rfl
theorem mm51 (X : mX) (Y : mY) : mem X Y 51 = .inl (3, 8, .inr (.inl (Y 51))) := rfl
theorem mm52 (X : mX) (Y : mY) : mem X Y 52 = .inl (0, 8, .inl (X 52)) := rfl
theorem mm53 (X : mX) (Y : mY) : mem X Y 53 = .inl (0, 8, .inl (X 53)) := rfl
theorem mm54 (X : mX) (Y : mY) : mem X Y 54 = .inl (0, 8, .inl (X 54)) := rfl
theorem mm55 (X : mX) (Y : mY) : mem X Y 55 = .inr (6, [.ref 47, .ref 61, .ref 56]) := rfl
theorem mm56 (X : mX) (Y : mY) : mem X Y 56 = .inr (8, [.ref 57, .ref 58, .ref 59, .ref 60, .int (X 56 4), .int (X 56 5)]) := rfl
theorem mm57 (X : mX) (Y : mY) : mem X Y 57 = .inl (0, 40, .inl (X 57)) := rfl
theorem mm58 (X : mX) (Y : mY) : mem X Y 58 = .inl (0, 40, .inl (X 58)) := rfl
theorem mm59 (X : mX) (Y : mY) : mem X Y 59 = .inl (0, 40, .inl (X 59)) := rfl
theorem mm60 (X : mX) (Y : mY) : mem X Y 60 = .inl (0, 40, .inl (X 60)) := rfl
theorem mm61 (X : mX) (Y : mY) : mem X Y 61 = .inr (3, [.ref 47, .ref 62, .ref 63, .ref 64, .ref 65, .ref 66, .ref 67, .ref 68, .ref 69, .int (X 61 9), .int (X 61 10), .int (X 61 11), .int (X 61 12), .int (X 61 13)]) := rfl
theorem mm62 (X : mX) (Y : mY) : mem X Y 62 = .inl (0, 8, .inl (X 62)) := rfl
theorem mm63 (X : mX) (Y : mY) : mem X Y 63 = .inl (0, 8, .inl (X 63)) := rfl
theorem mm64 (X : mX) (Y : mY) : mem X Y 64 = .inl (0, 8, .inl (X 64)) := rfl
theorem mm65 (X : mX) (Y : mY) : mem X Y 65 = .inl (0, 8, .inl (X 65)) := rfl
theorem mm66 (X : mX) (Y : mY) : mem X Y 66 = .inl (0, 64, .inl (X 66)) := rfl
theorem mm67 (X : mX) (Y : mY) : mem X Y 67 = .inl (0, 8, .inl (X 67)) := rfl
theorem mm68 (X : mX) (Y : mY) : mem X Y 68 = .inl (0, 8, .inl (X 68)) := rfl
theorem mm69 (X : mX) (Y : mY) : mem X Y 69 = .inl (0, 8, .inl (X 69)) := rfl
theorem mm70 (X : mX) (Y : mY) : mem X Y 70 = .inr (3, [.ref 47, .ref 71, .ref 72, .ref 73, .ref 74, .ref 75, .ref 76, .ref 77, .ref 78, .int (X 70 9), .int (X 70 10), .int (X 70 11), .int (X 70 12), .int (X 70 13)]) := rfl
theorem mm71 (X : mX) (Y : mY) : mem X Y 71 = .inl (0, 8, .inl (X 71)) := rfl
theorem mm72 (X : mX) (Y : mY) : mem X Y 72 = .inl (0, 8, .inl (X 72)) := rfl
theorem mm73 (X : mX) (Y : mY) : mem X Y 73 = .inl (0, 8, .inl (X 73)) := rfl
theorem mm74 (X : mX) (Y : mY) : mem X Y 74 = .inl (0, 8, .inl (X 74)) := rfl
theorem mm75 (X : mX) (Y : mY) : mem X Y 75 = .inl (0, 64, .inl (X 75)) := rfl
theorem mm76 (X : mX) (Y : mY) : mem X Y 76 = .inl (0, 8, .inl (X 76)) := rfl
theorem mm77 (X : mX) (Y : mY) : mem X Y 77 = .inl (0, 8, .inl (X 77)) := rfl
theorem mm78 (X : mX) (Y : mY) : mem X Y 78 = .inl (0, 8, .inl (X 78)) := rfl
theorem mm79 (X : mX) (Y : mY) : mem X Y 79 = .inr (5, [.ref 80, .int (X 79 1), .int (X 79 2)]) := rfl
theorem mm80 (X : mX) (Y : mY) : mem X Y 80 = .inl (5, 8, .inr (.inr (.inr (.inr fun i => ([81, 90, 99, 108, 117, 126, 135, 144] : List Nat)[i]?)))) := rfl
theorem mm81 (X : mX) (Y : mY) : mem X Y 81 = .inr (3, [.ref 47, .ref 82, .ref 83, .ref 84, .ref 85, .ref 86, .ref 87, .ref 88, .ref 89, .int (X 81 9), .int (X 81 10), .int (X 81 11), .int (X 81 12), .int (X 81 13)]) := rfl
theorem mm82 (X : mX) (Y : mY) : mem X Y 82 = .inl (0, 8, .inl (X 82)) := rfl
theorem mm83 (X : mX) (Y : mY) : mem X Y 83 = .inl (0, 8, .inl (X 83)) := rfl
theorem mm84 (X : mX) (Y : mY) : mem X Y 84 = .inl (0, 8, .inl (X 84)) := rfl
theorem mm85 (X : mX) (Y : mY) : mem X Y 85 = .inl (0, 8, .inl (X 85)) := rfl
theorem mm86 (X : mX) (Y : mY) : mem X Y 86 = .inl (0, 64, .inl (X 86)) := rfl
theorem mm87 (X : mX) (Y : mY) : mem X Y 87 = .inl (0, 8, .inl (X 87)) := rfl
theorem mm88 (X : mX) (Y : mY) : mem X Y 88 = .inl (0, 8, .inl (X 88)) := rfl
theorem mm89 (X : mX) (Y : mY) : mem X Y 89 = .inl (0, 8, .inl (X 89)) := rfl
theorem mm90 (X : mX) (Y : mY) : mem X Y 90 = .inr (3, [.ref 47, .ref 91, .ref 92, .ref 93, .ref 94, .ref 95, .ref 96, .ref 97, .ref 98, .int (X 90 9), .int (X 90 10), .int (X 90 11), .int (X 90 12), .int (X 90 13)]) := rfl
theorem mm91 (X : mX) (Y : mY) : mem X Y 91 = .inl (0, 8, .inl (X 91)) := rfl
theorem mm92 (X : mX) (Y : mY) : mem X Y 92 = .inl (0, 8, .inl (X 92)) := rfl
theorem mm93 (X : mX) (Y : mY) : mem X Y 93 = .inl (0, 8, .inl (X 93)) := rfl
theorem mm94 (X : mX) (Y : mY) : mem X Y 94 = .inl (0, 8, .inl (X 94)) := rfl
theorem mm95 (X : mX) (Y : mY) : mem X Y 95 = .inl (0, 64, .inl (X 95)) := rfl
theorem mm96 (X : mX) (Y : mY) : mem X Y 96 = .inl (0, 8, .inl (X 96)) := rfl
theorem mm97 (X : mX) (Y : mY) : mem X Y 97 = .inl (0, 8, .inl (X 97)) := rfl
theorem mm98 (X : mX) (Y : mY) : mem X Y 98 = .inl (0, 8, .inl (X 98)) := rfl
theorem mm99 (X : mX) (Y : mY) : mem X Y 99 = .inr (3, [.ref 47, .ref 100, .ref 101, .ref 102, .ref 103, .ref 104, .ref 105, .ref 106, .ref 107, .int (X 99 9), .int (X 99 10), .int (X 99 11), .int (X 99 12), .int (X 99 13)]) := rfl
theorem mm100 (X : mX) (Y : mY) : mem X Y 100 = .inl (0, 8, .inl (X 100)) := rfl
theorem mm101 (X : mX) (Y : mY) : mem X Y 101 = .inl (0, 8, .inl (X 101)) := rfl
theorem mm102 (X : mX) (Y : mY) : mem X Y 102 = .inl (0, 8, .inl (X 102)) := rfl
theorem mm103 (X : mX) (Y : mY) : mem X Y 103 = .inl (0, 8, .inl (X 103)) := rfl
theorem mm104 (X : mX) (Y : mY) : mem X Y 104 = .inl (0, 64, .inl (X 104)) := rfl
theorem mm105 (X : mX) (Y : mY) : mem X Y 105 = .inl (0, 8, .inl (X 105)) := rfl
theorem mm106 (X : mX) (Y : mY) : mem X Y 106 = .inl (0, 8, .inl (X 106)) := rfl
theorem mm107 (X : mX) (Y : mY) : mem X Y 107 = .inl (0, 8, .inl (X 107)) := rfl
theorem mm108 (X : mX) (Y : mY) : mem X Y 108 = .inr (3, [.ref 47, .ref 109, .ref 110, .ref 111, .ref 112, .ref 113, .ref 114, .ref 115, .ref 116, .int (X 108 9), .int (X 108 10), .int (X 108 11), .int (X 108 12), .int (X 108 13)]) := rfl
theorem mm109 (X : mX) (Y : mY) : mem X Y 109 = .inl (0, 8, .inl (X 109)) := rfl
theorem mm110 (X : mX) (Y : mY) : mem X Y 110 = .inl (0, 8, .inl (X 110)) := rfl
theorem mm111 (X : mX) (Y : mY) : mem X Y 111 = .inl (0, 8, .inl (X 111)) := rfl
theorem mm112 (X : mX) (Y : mY) : mem X Y 112 = .inl (0, 8, .inl (X 112)) := rfl
theorem mm113 (X : mX) (Y : mY) : mem X Y 113 = .inl (0, 64, .inl (X 113)) := rfl
theorem mm114 (X : mX) (Y : mY) : mem X Y 114 = .inl (0, 8, .inl (X 114)) := rfl
theorem mm115 (X : mX) (Y : mY) : mem X Y 115 = .inl (0, 8, .inl (X 115)) := rfl
theorem mm116 (X : mX) (Y : mY) : mem X Y 116 = .inl (0, 8, .inl (X 116)) := rfl
theorem mm117 (X : mX) (Y : mY) : mem X Y 117 = .inr (3, [.ref 47, .ref 118, .ref 119, .ref 120, .ref 121, .ref 122, .ref 123, .ref 124, .ref 125, .int (X 117 9), .int (X 117 10), .int (X 117 11), .int (X 117 12), .int (X 117 13)]) := rfl
theorem mm118 (X : mX) (Y : mY) : mem X Y 118 = .inl (0, 8, .inl (X 118)) := rfl
theorem mm119 (X : mX) (Y : mY) : mem X Y 119 = .inl (0, 8, .inl (X 119)) := rfl
theorem mm120 (X : mX) (Y : mY) : mem X Y 120 = .inl (0, 8, .inl (X 120)) := rfl
theorem mm121 (X : mX) (Y : mY) : mem X Y 121 = .inl (0, 8, .inl (X 121)) := rfl
theorem mm122 (X : mX) (Y : mY) : mem X Y 122 = .inl (0, 64, .inl (X 122)) := rfl
theorem mm123 (X : mX) (Y : mY) : mem X Y 123 = .inl (0, 8, .inl (X 123)) := rfl
theorem mm124 (X : mX) (Y : mY) : mem X Y 124 = .inl (0, 8, .inl (X 124)) := rfl
theorem mm125 (X : mX) (Y : mY) : mem X Y 125 = .inl (0, 8, .inl (X 125)) := rfl
theorem mm126 (X : mX) (Y : mY) : mem X Y 126 = .inr (3, [.ref 47, .ref 127, .ref 128, .ref 129, .ref 130, .ref 131, .ref 132, .ref 133, .ref 134, .int (X 126 9), .int (X 126 10), .int (X 126 11), .int (X 126 12), .int (X 126 13)]) := rfl
theorem mm127 (X : mX) (Y : mY) : mem X Y 127 = .inl (0, 8, .inl (X 127)) := rfl
theorem mm128 (X : mX) (Y : mY) : mem X Y 128 = .inl (0, 8, .inl (X 128)) := rfl
theorem mm129 (X : mX) (Y : mY) : mem X Y 129 = .inl (0, 8, .inl (X 129)) := rfl
theorem mm130 (X : mX) (Y : mY) : mem X Y 130 = .inl (0, 8, .inl (X 130)) := rfl
theorem mm131 (X : mX) (Y : mY) : mem X Y 131 = .inl (0, 64, .inl (X 131)) := rfl
theorem mm132 (X : mX) (Y : mY) : mem X Y 132 = .inl (0, 8, .inl (X 132)) := rfl
theorem mm133 (X : mX) (Y : mY) : mem X Y 133 = .inl (0, 8, .inl (X 133)) := rfl
theorem mm134 (X : mX) (Y : mY) : mem X Y 134 = .inl (0, 8, .inl (X 134)) := rfl
theorem mm135 (X : mX) (Y : mY) : mem X Y 135 = .inr (3, [.ref 47, .ref 136, .ref 137, .ref 138, .ref 139, .ref 140, .ref 141, .ref 142, .ref 143, .int (X 135 9), .int (X 135 10), .int (X 135 11), .int (X 135 12), .int (X 135 13)]) := rfl
theorem mm136 (X : mX) (Y : mY) : mem X Y 136 = .inl (0, 8, .inl (X 136)) := rfl
theorem mm137 (X : mX) (Y : mY) : mem X Y 137 = .inl (0, 8, .inl (X 137)) := rfl
theorem mm138 (X : mX) (Y : mY) : mem X Y 138 = .inl (0, 8, .inl (X 138)) := rfl
theorem mm139 (X : mX) (Y : mY) : mem X Y 139 = .inl (0, 8, .inl (X 139)) := rfl
theorem mm140 (X : mX) (Y : mY) : mem X Y 140 = .inl (0, 64, .inl (X 140)) := rfl
theorem mm141 (X : mX) (Y : mY) : mem X Y 141 = .inl (0, 8, .inl (X 141)) := rfl
theorem mm142 (X : mX) (Y : mY) : mem X Y 142 = .inl (0, 8, .inl (X 142)) := rfl
theorem mm143 (X : mX) (Y : mY) : mem X Y 143 = .inl (0, 8, .inl (X 143)) := rfl
theorem mm144 (X : mX) (Y : mY) : mem X Y 144 = .inr (3, [.ref 47, .ref 145, .ref 146, .ref 147, .ref 148, .ref 149, .ref 150, .ref 151, .ref 152, .int (X 144 9), .int (X 144 10), .int (X 144 11), .int (X 144 12), .int (X 144 13)]) := rfl
theorem mm145 (X : mX) (Y : mY) : mem X Y 145 = .inl (0, 8, .inl (X 145)) := rfl
theorem mm146 (X : mX) (Y : mY) : mem X Y 146 = .inl (0, 8, .inl (X 146)) := rfl
theorem mm147 (X : mX) (Y : mY) : mem X Y 147 = .inl (0, 8, .inl (X 147)) := rfl
theorem mm148 (X : mX) (Y : mY) : mem X Y 148 = .inl (0, 8, .inl (X 148)) := rfl
theorem mm149 (X : mX) (Y : mY) : mem X Y 149 = .inl (0, 64, .inl (X 149)) := rfl
theorem mm150 (X : mX) (Y : mY) : mem X Y 150 = .inl (0, 8, .inl (X 150)) := rfl
theorem mm151 (X : mX) (Y : mY) : mem X Y 151 = .inl (0, 8, .inl (X 151)) := rfl
theorem mm152 (X : mX) (Y : mY) : mem X Y 152 = .inl (0, 8, .inl (X 152)) := rfl
theorem mm153 (X : mX) (Y : mY) : mem X Y 153 = .inr (6, [.ref 154, .ref 167, .ref 162]) := rfl
theorem mm154 (X : mX) (Y : mY) : mem X Y 154 = .inr (1, [.ref 155, .ref 156, .ref 157, .ref 158, .ref 159, .ref 160, .ref 161, .int (X 154 7), .int (X 154 8), .int (X 154 9), .int (X 154 10), .int (X 154 11), .int (X 154 12)]) := rfl
theorem mm155 (X : mX) (Y : mY) : mem X Y 155 = .inl (3, 8, .inr (.inl (Y 155))) := rfl
theorem mm156 (X : mX) (Y : mY) : mem X Y 156 = .inl (0, 8, .inl (X 156)) := rfl
theorem mm157 (X : mX) (Y : mY) : mem X Y 157 = .inl (0, 8, .inl (X 157)) := rfl
theorem mm158 (X : mX) (Y : mY) : mem X Y 158 = .inl (3, 8, .inr (.inl (Y 158))) := rfl
theorem mm159 (X : mX) (Y : mY) : mem X Y 159 = .inl (0, 8, .inl (X 159)) := rfl
theorem mm160 (X : mX) (Y : mY) : mem X Y 160 = .inl (0, 8, .inl (X 160)) := rfl
theorem mm161 (X : mX) (Y : mY) : mem X Y 161 = .inl (0, 8, .inl (X 161)) := rfl
theorem mm162 (X : mX) (Y : mY) : mem X Y 162 = .inr (8, [.ref 163, .ref 164, .ref 165, .ref 166, .int (X 162 4), .int (X 162 5)]) := rfl
theorem mm163 (X : mX) (Y : mY) : mem X Y 163 = .inl (0, 40, .inl (X 163)) := rfl
theorem mm164 (X : mX) (Y : mY) : mem X Y 164 = .inl (0, 40, .inl (X 164)) := rfl
theorem mm165 (X : mX) (Y : mY) : mem X Y 165 = .inl (0, 40, .inl (X 165)) := rfl
theorem mm166 (X : mX) (Y : mY) : mem X Y 166 = .inl (0, 40, .inl (X 166)) := rfl
theorem mm167 (X : mX) (Y : mY) : mem X Y 167 = .inr (3, [.ref 154, .ref 168, .ref 169, .ref 170, .ref 171, .ref 172, .ref 173, .ref 174, .ref 175, .int (X 167 9), .int (X 167 10), .int (X 167 11), .int (X 167 12), .int (X 167 13)]) := rfl
theorem mm168 (X : mX) (Y : mY) : mem X Y 168 = .inl (0, 8, .inl (X 168)) := rfl
theorem mm169 (X : mX) (Y : mY) : mem X Y 169 = .inl (0, 8, .inl (X 169)) := rfl
theorem mm170 (X : mX) (Y : mY) : mem X Y 170 = .inl (0, 8, .inl (X 170)) := rfl
theorem mm171 (X : mX) (Y : mY) : mem X Y 171 = .inl (0, 8, .inl (X 171)) := rfl
theorem mm172 (X : mX) (Y : mY) : mem X Y 172 = .inl (0, 64, .inl (X 172)) := rfl
theorem mm173 (X : mX) (Y : mY) : mem X Y 173 = .inl (0, 8, .inl (X 173)) := rfl
theorem mm174 (X : mX) (Y : mY) : mem X Y 174 = .inl (0, 8, .inl (X 174)) := rfl
theorem mm175 (X : mX) (Y : mY) : mem X Y 175 = .inl (0, 8, .inl (X 175)) := rfl
theorem mm176 (X : mX) (Y : mY) : mem X Y 176 = .inr (6, [.ref 177, .ref 190, .ref 185]) := rfl
theorem mm177 (X : mX) (Y : mY) : mem X Y 177 = .inr (1, [.ref 178, .ref 179, .ref 180, .ref 181, .ref 182, .ref 183, .ref 184, .int (X 177 7), .int (X 177 8), .int (X 177 9), .int (X 177 10), .int (X 177 11), .int (X 177 12)]) := rfl
theorem mm178 (X : mX) (Y : mY) : mem X Y 178 = .inl (3, 8, .inr (.inl (Y 178))) := rfl
theorem mm179 (X : mX) (Y : mY) : mem X Y 179 = .inl (0, 8, .inl (X 179)) := rfl
theorem mm180 (X : mX) (Y : mY) : mem X Y 180 = .inl (0, 8, .inl (X 180)) := rfl
theorem mm181 (X : mX) (Y : mY) : mem X Y 181 = .inl (3, 8, .inr (.inl (Y 181))) := rfl
theorem mm182 (X : mX) (Y : mY) : mem X Y 182 = .inl (0, 8, .inl (X 182)) := rfl
theorem mm183 (X : mX) (Y : mY) : mem X Y 183 = .inl (0, 8, .inl (X 183)) := rfl
theorem mm184 (X : mX) (Y : mY) : mem X Y 184 = .inl (0, 8, .inl (X 184)) := rfl
theorem mm185 (X : mX) (Y : mY) : mem X Y 185 = .inr (8, [.ref 186, .ref 187, .ref 188, .ref 189, .int (X 185 4), .int (X 185 5)]) := rfl
theorem mm186 (X : mX) (Y : mY) : mem X Y 186 = .inl (0, 40, .inl (X 186)) := rfl
theorem mm187 (X : mX) (Y : mY) : mem X Y 187 = .inl (0, 40, .inl (X 187)) := rfl
theorem mm188 (X : mX) (Y : mY) : mem X Y 188 = .inl (0, 40, .inl (X 188)) := rfl
theorem mm189 (X : mX) (Y : mY) : mem X Y 189 = .inl (0, 40, .inl (X 189)) := rfl
theorem mm190 (X : mX) (Y : mY) : mem X Y 190 = .inr (3, [.ref 177, .ref 191, .ref 192, .ref 193, .ref 194, .ref 195, .ref 196, .ref 197, .ref 198, .int (X 190 9), .int (X 190 10), .int (X 190 11), .int (X 190 12), .int (X 190 13)]) := rfl
theorem mm191 (X : mX) (Y : mY) : mem X Y 191 = .inl (0, 8, .inl (X 191)) := rfl
theorem mm192 (X : mX) (Y : mY) : mem X Y 192 = .inl (0, 8, .inl (X 192)) := rfl
theorem mm193 (X : mX) (Y : mY) : mem X Y 193 = .inl (0, 8, .inl (X 193)) := rfl
theorem mm194 (X : mX) (Y : mY) : mem X Y 194 = .inl (0, 8, .inl (X 194)) := rfl
theorem mm195 (X : mX) (Y : mY) : mem X Y 195 = .inl (0, 64, .inl (X 195)) := rfl
theorem mm196 (X : mX) (Y : mY) : mem X Y 196 = .inl (0, 8, .inl (X 196)) := rfl
theorem mm197 (X : mX) (Y : mY) : mem X Y 197 = .inl (0, 8, .inl (X 197)) := rfl
theorem mm198 (X : mX) (Y : mY) : mem X Y 198 = .inl (0, 8, .inl (X 198)) := rfl
theorem mm199 (X : mX) (Y : mY) : mem X Y 199 = .inr (12, [.int (X 199 0), .ref 200, .int (X 199 2), .int (X 199 3), .int (X 199 4), .int (X 199 5), .ref 201, .ref 202, .ref 203, .ref 204, .ref 205, .int (X 199 11), .int (X 199 12), .int (X 199 13), .int (X 199 14), .int (X 199 15), .int (X 199 16), .long (Y 199 17), .int (X 199 18), .int (X 199 19), .int (X 199 20), .int (X 199 21), .ref 206, .ref 207, .int (X 199 24), .int (X 199 25), .ref 208, .ref 209, .int (X 199 28), .int (X 199 29), .int (X 199 30), .ref 210, .ref 211, .ref 212, .int (X 199 34), .ref 213, .ref 214, .ref 215, .int (X 199 38), .ref 216, .ref 217, .ref 218, .ref 219, .ref 220, .int (X 199 44), .int (X 199 45), .int (X 199 46), .ref 221, .ref 222, .ref 223, .int (X 199 50), .int (X 199 51), .int (X 199 52), .ref 224, .int (X 199 54), .ref 225, .int (X 199 56), .int (X 199 57), .int (X 199 58), .int (X 199 59), .int (X 199 60), .ref 226, .ref 227, .ref 228, .ref 229]) := rfl
theorem mm200 (X : mX) (Y : mY) : mem X Y 200 = .inl (1, 940, .inl (X 200)) := rfl
theorem mm201 (X : mX) (Y : mY) : mem X Y 201 = .inl (0, 438, .inl (X 201)) := rfl
theorem mm202 (X : mX) (Y : mY) : mem X Y 202 = .inl (0, 132, .inl (X 202)) := rfl
theorem mm203 (X : mX) (Y : mY) : mem X Y 203 = .inl (0, 135, .inl (X 203)) := rfl
theorem mm204 (X : mX) (Y : mY) : mem X Y 204 = .inl (3, 32, .inr (.inl (Y 204))) := rfl
theorem mm205 (X : mX) (Y : mY) : mem X Y 205 = .inl (3, 21, .inr (.inl (Y 205))) := rfl
theorem mm206 (X : mX) (Y : mY) : mem X Y 206 = .inl (0, 9, .inl (X 206)) := rfl
theorem mm207 (X : mX) (Y : mY) : mem X Y 207 = .inl (0, 8, .inl (X 207)) := rfl
theorem mm208 (X : mX) (Y : mY) : mem X Y 208 = .inl (0, 1000, .inl (X 208)) := rfl
theorem mm209 (X : mX) (Y : mY) : mem X Y 209 = .inl (0, 125, .inl (X 209)) := rfl
theorem mm210 (X : mX) (Y : mY) : mem X Y 210 = .inl (0, 8, .inl (X 210)) := rfl
theorem mm211 (X : mX) (Y : mY) : mem X Y 211 = .inl (0, 8, .inl (X 211)) := rfl
theorem mm212 (X : mX) (Y : mY) : mem X Y 212 = .inl (0, 8, .inl (X 212)) := rfl
theorem mm213 (X : mX) (Y : mY) : mem X Y 213 = .inl (0, 8, .inl (X 213)) := rfl
theorem mm214 (X : mX) (Y : mY) : mem X Y 214 = .inl (0, 8, .inl (X 214)) := rfl
theorem mm215 (X : mX) (Y : mY) : mem X Y 215 = .inl (0, 8, .inl (X 215)) := rfl
theorem mm216 (X : mX) (Y : mY) : mem X Y 216 = .inl (0, 90, .inl (X 216)) := rfl
theorem mm217 (X : mX) (Y : mY) : mem X Y 217 = .inl (0, 90, .inl (X 217)) := rfl
theorem mm218 (X : mX) (Y : mY) : mem X Y 218 = .inl (0, 90, .inl (X 218)) := rfl
theorem mm219 (X : mX) (Y : mY) : mem X Y 219 = .inl (0, 8, .inl (X 219)) := rfl
theorem mm220 (X : mX) (Y : mY) : mem X Y 220 = .inl (0, 3, .inl (X 220)) := rfl
theorem mm221 (X : mX) (Y : mY) : mem X Y 221 = .inl (0, 3, .inl (X 221)) := rfl
theorem mm222 (X : mX) (Y : mY) : mem X Y 222 = .inl (0, 3, .inl (X 222)) := rfl
theorem mm223 (X : mX) (Y : mY) : mem X Y 223 = .inl (0, 3, .inl (X 223)) := rfl
theorem mm224 (X : mX) (Y : mY) : mem X Y 224 = .inl (0, 4, .inl (X 224)) := rfl
theorem mm225 (X : mX) (Y : mY) : mem X Y 225 = .inl (0, 45, .inl (X 225)) := rfl
theorem mm226 (X : mX) (Y : mY) : mem X Y 226 = .inl (2, 45, .inl (X 226)) := rfl
theorem mm227 (X : mX) (Y : mY) : mem X Y 227 = .inl (0, 876, .inl (X 227)) := rfl
theorem mm228 (X : mX) (Y : mY) : mem X Y 228 = .inl (3, 32, .inr (.inl (Y 228))) := rfl
theorem mm229 (X : mX) (Y : mY) : mem X Y 229 = .inl (2, 2, .inl (X 229)) := rfl
theorem mm230 (X : mX) (Y : mY) : mem X Y 230 = .inl (3, 1, .inr (.inl (Y 230))) := rfl
theorem mu1 (X : mX) (Y : mY) (f : Nat → Int32) : va_up (mem X Y) 1 (.inl (1, 940, .inl f)) = mem (va_up X 1 f) Y := mup_of rfl
theorem mu3 (X : mX) (Y : mY) (f : Nat → Int32) : va_up (mem X Y) 3 (.inl (1, 0, .inl f)) = mem (va_up X 3 f) Y := mup_of rfl
theorem mu7 (X : mX) (Y : mY) (f : Nat → Int64) : va_up (mem X Y) 7 (.inl (3, 8, .inr (.inl f))) = mem X (va_up Y 7 f) := mup_ofL rfl
theorem mu8 (X : mX) (Y : mY) (f : Nat → Int32) : va_up (mem X Y) 8 (.inl (0, 8, .inl f)) = mem (va_up X 8 f) Y := mup_of rfl
theorem mu9 (X : mX) (Y : mY) (f : Nat → Int32) : va_up (mem X Y) 9 (.inl (0, 8, .inl f)) = mem (va_up X 9 f) Y := mup_of rfl
theorem mu10 (X : mX) (Y : mY) (f : Nat → Int64) : va_up (mem X Y) 10 (.inl (3, 8, .inr (.inl f))) = mem X (va_up Y 10 f) := mup_ofL rfl
theorem mu11 (X : mX) (Y : mY) (f : Nat → Int32) : va_up (mem X Y) 11 (.inl (0, 8, .inl f)) = mem (va_up X 11 f) Y := mup_of rfl
theorem mu12 (X : mX) (Y : mY) (f : Nat → Int32) : va_up (mem X Y) 12 (.inl (0, 8, .inl f)) = mem (va_up X 12 f) Y := mup_of rfl
theorem mu13 (X : mX) (Y : mY) (f : Nat → Int32) : va_up (mem X Y) 13 (.inl (0, 8, .inl f)) = mem (va_up X 13 f) Y := mup_of rfl
theorem mu15 (X : mX) (Y : mY) (f : Nat → Int32) : va_up (mem X Y) 15 (.inl (0, 40, .inl f)) = mem (va_up X 15 f) Y := mup_of rfl
theorem mu16 (X : mX) (Y : mY) (f : Nat → Int32) : va_up (mem X Y) 16 (.inl (0, 40, .inl f)) = mem (va_up X 16 f) Y := mup_of rfl
theorem mu17 (X : mX) (Y : mY) (f : Nat → Int32) : va_up (mem X Y) 17 (.inl (0, 40, .inl f)) = mem (va_up X 17 f) Y := mup_of rfl
theorem mu18 (X : mX) (Y : mY) (f : Nat → Int32) : va_up (mem X Y) 18 (.inl (0, 40, .inl f)) = mem (va_up X 18 f) Y := mup_of rfl
theorem mu20 (X : mX) (Y : mY) (f : Nat → Int32) : va_up (mem X Y) 20 (.inl (0, 8, .inl f)) = mem (va_up X 20 f) Y := mup_of rfl
theorem mu21 (X : mX) (Y : mY) (f : Nat → Int32) : va_up (mem X Y) 21 (.inl (0, 8, .inl f)) = mem (va_up X 21 f) Y := mup_of rfl
theorem mu22 (X : mX) (Y : mY) (f : Nat → Int32) : va_up (mem X Y) 22 (.inl (0, 8, .inl f)) = mem (va_up X 22 f) Y := mup_of rfl
theorem mu23 (X : mX) (Y : mY) (f : Nat → Int32) : va_up (mem X Y) 23 (.inl (0, 8, .inl f)) = mem (va_up X 23 f) Y := mup_of rfl
theorem mu24 (X : mX) (Y : mY) (f : Nat → Int32) : va_up (mem X Y) 24 (.inl (0, 64, .inl f)) = mem (va_up X 24 f) Y := mup_of rfl
theorem mu25 (X : mX) (Y : mY) (f : Nat → Int32) : va_up (mem X Y) 25 (.inl (0, 8, .inl f)) = mem (va_up X 25 f) Y := mup_of rfl
theorem mu26 (X : mX) (Y : mY) (f : Nat → Int32) : va_up (mem X Y) 26 (.inl (0, 8, .inl f)) = mem (va_up X 26 f) Y := mup_of rfl
theorem mu27 (X : mX) (Y : mY) (f : Nat → Int32) : va_up (mem X Y) 27 (.inl (0, 8, .inl f)) = mem (va_up X 27 f) Y := mup_of rfl
theorem mu29 (X : mX) (Y : mY) (f : Nat → Int32) : va_up (mem X Y) 29 (.inl (2, 2, .inl f)) = mem (va_up X 29 f) Y := mup_of rfl
theorem mu31 (X : mX) (Y : mY) (f : Nat → Int32) : va_up (mem X Y) 31 (.inl (0, 30, .inl f)) = mem (va_up X 31 f) Y := mup_of rfl
theorem mu32 (X : mX) (Y : mY) (f : Nat → Int32) : va_up (mem X Y) 32 (.inl (0, 30, .inl f)) = mem (va_up X 32 f) Y := mup_of rfl
theorem mu33 (X : mX) (Y : mY) (f : Nat → Int32) : va_up (mem X Y) 33 (.inl (0, 30, .inl f)) = mem (va_up X 33 f) Y := mup_of rfl
theorem mu34 (X : mX) (Y : mY) (f : Nat → Int32) : va_up (mem X Y) 34 (.inl (0, 30, .inl f)) = mem (va_up X 34 f) Y := mup_of rfl
theorem mu36 (X : mX) (Y : mY) (f : Nat → Int32) : va_up (mem X Y) 36 (.inl (0, 8, .inl f)) = mem (va_up X 36 f) Y := mup_of rfl
theorem mu37 (X : mX) (Y : mY) (f : Nat → Int32) : va_up (mem X Y) 37 (.inl (0, 8, .inl f)) = mem (va_up X 37 f) Y := mup_of rfl
theorem mu39 (X : mX) (Y : mY) (f : Nat → Int32) : va_up (mem X Y) 39 (.inl (0, 8, .inl f)) = mem (va_up X 39 f) Y := mup_of rfl
theorem mu40 (X : mX) (Y : mY) (f : Nat → Int32) : va_up (mem X Y) 40 (.inl (0, 8, .inl f)) = mem (va_up X 40 f) Y := mup_of rfl
theorem mu41 (X : mX) (Y : mY) (f : Nat → Int32) : va_up (mem X Y) 41 (.inl (0, 8, .inl f)) = mem (va_up X 41 f) Y := mup_of rfl
theorem mu43 (X : mX) (Y : mY) (f : Nat → Int32) : va_up (mem X Y) 43 (.inl (0, 6, .inl f)) = mem (va_up X 43 f) Y := mup_of rfl
theorem mu44 (X : mX) (Y : mY) (f : Nat → Int32) : va_up (mem X Y) 44 (.inl (0, 3, .inl f)) = mem (va_up X 44 f) Y := mup_of rfl
theorem mu45 (X : mX) (Y : mY) (f : Nat → Int32) : va_up (mem X Y) 45 (.inl (0, 3, .inl f)) = mem (va_up X 45 f) Y := mup_of rfl
theorem mu46 (X : mX) (Y : mY) (f : Nat → Int32) : va_up (mem X Y) 46 (.inl (0, 8, .inl f)) = mem (va_up X 46 f) Y := mup_of rfl
theorem mu48 (X : mX) (Y : mY) (f : Nat → Int64) : va_up (mem X Y) 48 (.inl (3, 8, .inr (.inl f))) = mem X (va_up Y 48 f) := mup_ofL rfl
theorem mu49 (X : mX) (Y : mY) (f : Nat → Int32) : va_up (mem X Y) 49 (.inl (0, 8, .inl f)) = mem (va_up X 49 f) Y := mup_of rfl
theorem mu50 (X : mX) (Y : mY) (f : Nat → Int32) : va_up (mem X Y) 50 (.inl (0, 8, .inl f)) = mem (va_up X 50 f) Y := mup_of rfl
theorem mu51 (X : mX) (Y : mY) (f : Nat → Int64) : va_up (mem X Y) 51 (.inl (3, 8, .inr (.inl f))) = mem X (va_up Y 51 f) := mup_ofL rfl
theorem mu52 (X : mX) (Y : mY) (f : Nat → Int32) : va_up (mem X Y) 52 (.inl (0, 8, .inl f)) = mem (va_up X 52 f) Y := mup_of rfl
theorem mu53 (X : mX) (Y : mY) (f : Nat → Int32) : va_up (mem X Y) 53 (.inl (0, 8, .inl f)) = mem (va_up X 53 f) Y := mup_of rfl
theorem mu54 (X : mX) (Y : mY) (f : Nat → Int32) : va_up (mem X Y) 54 (.inl (0, 8, .inl f)) = mem (va_up X 54 f) Y := mup_of rfl
theorem mu57 (X : mX) (Y : mY) (f : Nat → Int32) : va_up (mem X Y) 57 (.inl (0, 40, .inl f)) = mem (va_up X 57 f) Y := mup_of rfl
theorem mu58 (X : mX) (Y : mY) (f : Nat → Int32) : va_up (mem X Y) 58 (.inl (0, 40, .inl f)) = mem (va_up X 58 f) Y := mup_of rfl
theorem mu59 (X : mX) (Y : mY) (f : Nat → Int32) : va_up (mem X Y) 59 (.inl (0, 40, .inl f)) = mem (va_up X 59 f) Y := mup_of rfl
theorem mu60 (X : mX) (Y : mY) (f : Nat → Int32) : va_up (mem X Y) 60 (.inl (0, 40, .inl f)) = mem (va_up X 60 f) Y := mup_of rfl
theorem mu62 (X : mX) (Y : mY) (f : Nat → Int32) : va_up (mem X Y) 62 (.inl (0, 8, .inl f)) = mem (va_up X 62 f) Y := mup_of rfl
theorem mu63 (X : mX) (Y : mY) (f : Nat → Int32) : va_up (mem X Y) 63 (.inl (0, 8, .inl f)) = mem (va_up X 63 f) Y := mup_of rfl
theorem mu64 (X : mX) (Y : mY) (f : Nat → Int32) : va_up (mem X Y) 64 (.inl (0, 8, .inl f)) = mem (va_up X 64 f) Y := mup_of rfl
theorem mu65 (X : mX) (Y : mY) (f : Nat → Int32) : va_up (mem X Y) 65 (.inl (0, 8, .inl f)) = mem (va_up X 65 f) Y := mup_of rfl
theorem mu66 (X : mX) (Y : mY) (f : Nat → Int32) : va_up (mem X Y) 66 (.inl (0, 64, .inl f)) = mem (va_up X 66 f) Y := mup_of rfl
theorem mu67 (X : mX) (Y : mY) (f : Nat → Int32) : va_up (mem X Y) 67 (.inl (0, 8, .inl f)) = mem (va_up X 67 f) Y := mup_of rfl
theorem mu68 (X : mX) (Y : mY) (f : Nat → Int32) : va_up (mem X Y) 68 (.inl (0, 8, .inl f)) = mem (va_up X 68 f) Y := mup_of rfl
theorem mu69 (X : mX) (Y : mY) (f : Nat → Int32) : va_up (mem X Y) 69 (.inl (0, 8, .inl f)) = mem (va_up X 69 f) Y := mup_of rfl
theorem mu71 (X : mX) (Y : mY) (f : Nat → Int32) : va_up (mem X Y) 71 (.inl (0, 8, .inl f)) = mem (va_up X 71 f) Y := mup_of rfl
theorem mu72 (X : mX) (Y : mY) (f : Nat → Int32) : va_up (mem X Y) 72 (.inl (0, 8, .inl f)) = mem (va_up X 72 f) Y := mup_of rfl
theorem mu73 (X : mX) (Y : mY) (f : Nat → Int32) : va_up (mem X Y) 73 (.inl (0, 8, .inl f)) = mem (va_up X 73 f) Y := mup_of rfl
theorem mu74 (X : mX) (Y : mY) (f : Nat → Int32) : va_up (mem X Y) 74 (.inl (0, 8, .inl f)) = mem (va_up X 74 f) Y := mup_of rfl
theorem mu75 (X : mX) (Y : mY) (f : Nat → Int32) : va_up (mem X Y) 75 (.inl (0, 64, .inl f)) = mem (va_up X 75 f) Y := mup_of rfl
theorem mu76 (X : mX) (Y : mY) (f : Nat → Int32) : va_up (mem X Y) 76 (.inl (0, 8, .inl f)) = mem (va_up X 76 f) Y := mup_of rfl
theorem mu77 (X : mX) (Y : mY) (f : Nat → Int32) : va_up (mem X Y) 77 (.inl (0, 8, .inl f)) = mem (va_up X 77 f) Y := mup_of rfl
theorem mu78 (X : mX) (Y : mY) (f : Nat → Int32) : va_up (mem X Y) 78 (.inl (0, 8, .inl f)) = mem (va_up X 78 f) Y := mup_of rfl
theorem mu82 (X : mX) (Y : mY) (f : Nat → Int32) : va_up (mem X Y) 82 (.inl (0, 8, .inl f)) = mem (va_up X 82 f) Y := mup_of rfl
theorem mu83 (X : mX) (Y : mY) (f : Nat → Int32) : va_up (mem X Y) 83 (.inl (0, 8, .inl f)) = mem (va_up X 83 f) Y := mup_of rfl
theorem mu84 (X : mX) (Y : mY) (f : Nat → Int32) : va_up (mem X Y) 84 (.inl (0, 8, .inl f)) = mem (va_up X 84 f) Y := mup_of rfl
theorem mu85 (X : mX) (Y : mY) (f : Nat → Int32) : va_up (mem X Y) 85 (.inl (0, 8, .inl f)) = mem (va_up X 85 f) Y := mup_of rfl
theorem mu86 (X : mX) (Y : mY) (f : Nat → Int32) : va_up (mem X Y) 86 (.inl (0, 64, .inl f)) = mem (va_up X 86 f) Y := mup_of rfl
theorem mu87 (X : mX) (Y : mY) (f : Nat → Int32) : va_up (mem X Y) 87 (.inl (0, 8, .inl f)) = mem (va_up X 87 f) Y := mup_of rfl
theorem mu88 (X : mX) (Y : mY) (f : Nat → Int32) : va_up (mem X Y) 88 (.inl (0, 8, .inl f)) = mem (va_up X 88 f) Y := mup_of rfl
theorem mu89 (X : mX) (Y : mY) (f : Nat → Int32) : va_up (mem X Y) 89 (.inl (0, 8, .inl f)) = mem (va_up X 89 f) Y := mup_of rfl
theorem mu91 (X : mX) (Y : mY) (f : Nat → Int32) : va_up (mem X Y) 91 (.inl (0, 8, .inl f)) = mem (va_up X 91 f) Y := mup_of rfl
theorem mu92 (X : mX) (Y : mY) (f : Nat → Int32) : va_up (mem X Y) 92 (.inl (0, 8, .inl f)) = mem (va_up X 92 f) Y := mup_of rfl
theorem mu93 (X : mX) (Y : mY) (f : Nat → Int32) : va_up (mem X Y) 93 (.inl (0, 8, .inl f)) = mem (va_up X 93 f) Y := mup_of rfl
theorem mu94 (X : mX) (Y : mY) (f : Nat → Int32) : va_up (mem X Y) 94 (.inl (0, 8, .inl f)) = mem (va_up X 94 f) Y := mup_of rfl
theorem mu95 (X : mX) (Y : mY) (f : Nat → Int32) : va_up (mem X Y) 95 (.inl (0, 64, .inl f)) = mem (va_up X 95 f) Y := mup_of rfl
theorem mu96 (X : mX) (Y : mY) (f : Nat → Int32) : va_up (mem X Y) 96 (.inl (0, 8, .inl f)) = mem (va_up X 96 f) Y := mup_of rfl
theorem mu97 (X : mX) (Y : mY) (f : Nat → Int32) : va_up (mem X Y) 97 (.inl (0, 8, .inl f)) = mem (va_up X 97 f) Y := mup_of rfl
theorem mu98 (X : mX) (Y : mY) (f : Nat → Int32) : va_up (mem X Y) 98 (.inl (0, 8, .inl f)) = mem (va_up X 98 f) Y := mup_of rfl
theorem mu100 (X : mX) (Y : mY) (f : Nat → Int32) : va_up (mem X Y) 100 (.inl (0, 8, .inl f)) = mem (va_up X 100 f) Y := mup_of rfl
theorem mu101 (X : mX) (Y : mY) (f : Nat → Int32) : va_up (mem X Y) 101 (.inl (0, 8, .inl f)) = mem (va_up X 101 f) Y := mup_of rfl
theorem mu102 (X : mX) (Y : mY) (f : Nat → Int32) : va_up (mem X Y) 102 (.inl (0, 8, .inl f)) = mem (va_up X 102 f) Y := mup_of rfl
theorem mu103 (X : mX) (Y : mY) (f : Nat → Int32) : va_up (mem X Y) 103 (.inl (0, 8, .inl f)) = mem (va_up X 103 f) Y := mup_of rfl
theorem mu104 (X : mX) (Y : mY) (f : Nat → Int32) : va_up (mem X Y) 104 (.inl (0, 64, .inl f)) = mem (va_up X 104 f) Y := mup_of rfl
theorem mu105 (X : mX) (Y : mY) (f : Nat → Int32) : va_up (mem X Y) 105 (.inl (0, 8, .inl f)) = mem (va_up X 105 f) Y := mup_of rfl
theorem mu106 (X : mX) (Y : mY) (f : Nat → Int32) : va_up (mem X Y) 106 (.inl (0, 8, .inl f)) = mem (va_up X 106 f) Y := mup_of rfl
theorem mu107 (X : mX) (Y : mY) (f : Nat → Int32) : va_up (mem X Y) 107 (.inl (0, 8, .inl f)) = mem (va_up X 107 f) Y := mup_of rfl
theorem mu109 (X : mX) (Y : mY) (f : Nat → Int32) : va_up (mem X Y) 109 (.inl (0, 8, .inl f)) = mem (va_up X 109 f) Y := mup_of rfl
theorem mu110 (X : mX) (Y : mY) (f : Nat → Int32) : va_up (mem X Y) 110 (.inl (0, 8, .inl f)) = mem (va_up X 110 f) Y := mup_of rfl
theorem mu111 (X : mX) (Y : mY) (f : Nat → Int32) : va_up (mem X Y) 111 (.inl (0, 8, .inl f)) = mem (va_up X 111 f) Y := mup_of rfl
theorem mu112 (X : mX) (Y : mY) (f : Nat → Int32) : va_up (mem X Y) 112 (.inl (0, 8, .inl f)) = mem (va_up X 112 f) Y := mup_of rfl
theorem mu113 (X : mX) (Y : mY) (f : Nat → Int32) : va_up (mem X Y) 113 (.inl (0, 64, .inl f)) = mem (va_up X 113 f) Y := mup_of rfl
theorem mu114 (X : mX) (Y : mY) (f : Nat → Int32) : va_up (mem X Y) 114 (.inl (0, 8, .inl f)) = mem (va_up X 114 f) Y := mup_of rfl
theorem mu115 (X : mX) (Y : mY) (f : Nat → Int32) : va_up (mem X Y) 115 (.inl (0, 8, .inl f)) = mem (va_up X 115 f) Y := mup_of rfl
theorem mu116 (X : mX) (Y : mY) (f : Nat → Int32) : va_up (mem X Y) 116 (.inl (0, 8, .inl f)) = mem (va_up X 116 f) Y := mup_of rfl
theorem mu118 (X : mX) (Y : mY) (f : Nat → Int32) : va_up (mem X Y) 118 (.inl (0, 8, .inl f)) = mem (va_up X 118 f) Y := mup_of rfl
theorem mu119 (X : mX) (Y : mY) (f : Nat → Int32) : va_up (mem X Y) 119 (.inl (0, 8, .inl f)) = mem (va_up X 119 f) Y := mup_of rfl
theorem mu120 (X : mX) (Y : mY) (f : Nat → Int32) : va_up (mem X Y) 120 (.inl (0, 8, .inl f)) = mem (va_up X 120 f) Y := mup_of rfl
theorem mu121 (X : mX) (Y : mY) (f : Nat → Int32) : va_up (mem X Y) 121 (.inl (0, 8, .inl f)) = mem (va_up X 121 f) Y := mup_of rfl
theorem mu122 (X : mX) (Y : mY) (f : Nat → Int32) : va_up (mem X Y) 122 (.inl (0, 64, .inl f)) = mem (va_up X 122 f) Y := mup_of rfl
theorem mu123 (X : mX) (Y : mY) (f : Nat → Int32) : va_up (mem X Y) 123 (.inl (0, 8, .inl f)) = mem (va_up X 123 f) Y := mup_of rfl
theorem mu124 (X : mX) (Y : mY) (f : Nat → Int32) : va_up (mem X Y) 124 (.inl (0, 8, .inl f)) = mem (va_up X 124 f) Y := mup_of rfl
theorem mu125 (X : mX) (Y : mY) (f : Nat → Int32) : va_up (mem X Y) 125 (.inl (0, 8, .inl f)) = mem (va_up X 125 f) Y := mup_of rfl
theorem mu127 (X : mX) (Y : mY) (f : Nat → Int32) : va_up (mem X Y) 127 (.inl (0, 8, .inl f)) = mem (va_up X 127 f) Y := mup_of rfl
theorem mu128 (X : mX) (Y : mY) (f : Nat → Int32) : va_up (mem X Y) 128 (.inl (0, 8, .inl f)) = mem (va_up X 128 f) Y := mup_of rfl
theorem mu129 (X : mX) (Y : mY) (f : Nat → Int32) : va_up (mem X Y) 129 (.inl (0, 8, .inl f)) = mem (va_up X 129 f) Y := mup_of rfl
theorem mu130 (X : mX) (Y : mY) (f : Nat → Int32) : va_up (mem X Y) 130 (.inl (0, 8, .inl f)) = mem (va_up X 130 f) Y := mup_of rfl
theorem mu131 (X : mX) (Y : mY) (f : Nat → Int32) : va_up (mem X Y) 131 (.inl (0, 64, .inl f)) = mem (va_up X 131 f) Y := mup_of rfl
theorem mu132 (X : mX) (Y : mY) (f : Nat → Int32) : va_up (mem X Y) 132 (.inl (0, 8, .inl f)) = mem (va_up X 132 f) Y := mup_of rfl
theorem mu133 (X : mX) (Y : mY) (f : Nat → Int32) : va_up (mem X Y) 133 (.inl (0, 8, .inl f)) = mem (va_up X 133 f) Y := mup_of rfl
theorem mu134 (X : mX) (Y : mY) (f : Nat → Int32) : va_up (mem X Y) 134 (.inl (0, 8, .inl f)) = mem (va_up X 134 f) Y := mup_of rfl
theorem mu136 (X : mX) (Y : mY) (f : Nat → Int32) : va_up (mem X Y) 136 (.inl (0, 8, .inl f)) = mem (va_up X 136 f) Y := mup_of rfl
theorem mu137 (X : mX) (Y : mY) (f : Nat → Int32) : va_up (mem X Y) 137 (.inl (0, 8, .inl f)) = mem (va_up X 137 f) Y := mup_of rfl
theorem mu138 (X : mX) (Y : mY) (f : Nat → Int32) : va_up (mem X Y) 138 (.inl (0, 8, .inl f)) = mem (va_up X 138 f) Y := mup_of rfl
theorem mu139 (X : mX) (Y : mY) (f : Nat → Int32) : va_up (mem X Y) 139 (.inl (0, 8, .inl f)) = mem (va_up X 139 f) Y := mup_of rfl
theorem mu140 (X : mX) (Y : mY) (f : Nat → Int32) : va_up (mem X Y) 140 (.inl (0, 64, .inl f)) = mem (va_up X 140 f) Y := mup_of rfl
theorem mu141 (X : mX) (Y : mY) (f : Nat → Int32) : va_up (mem X Y) 141 (.inl (0, 8, .inl f)) = mem (va_up X 141 f) Y := mup_of rfl
theorem mu142 (X : mX) (Y : mY) (f : Nat → Int32) : va_up (mem X Y) 142 (.inl (0, 8, .inl f)) = mem (va_up X 142 f) Y := mup_of rfl
theorem mu143 (X : mX) (Y : mY) (f : Nat → Int32) : va_up (mem X Y) 143 (.inl (0, 8, .inl f)) = mem (va_up X 143 f) Y := mup_of rfl
theorem mu145 (X : mX) (Y : mY) (f : Nat → Int32) : va_up (mem X Y) 145 (.inl (0, 8, .inl f)) = mem (va_up X 145 f) Y := mup_of rfl
theorem mu146 (X : mX) (Y : mY) (f : Nat → Int32) : va_up (mem X Y) 146 (.inl (0, 8, .inl f)) = mem (va_up X 146 f) Y := mup_of rfl
theorem mu147 (X : mX) (Y : mY) (f : Nat → Int32) : va_up (mem X Y) 147 (.inl (0, 8, .inl f)) = mem (va_up X 147 f) Y := mup_of rfl
theorem mu148 (X : mX) (Y : mY) (f : Nat → Int32) : va_up (mem X Y) 148 (.inl (0, 8, .inl f)) = mem (va_up X 148 f) Y := mup_of rfl
theorem mu149 (X : mX) (Y : mY) (f : Nat → Int32) : va_up (mem X Y) 149 (.inl (0, 64, .inl f)) = mem (va_up X 149 f) Y := mup_of rfl
theorem mu150 (X : mX) (Y : mY) (f : Nat → Int32) : va_up (mem X Y) 150 (.inl (0, 8, .inl f)) = mem (va_up X 150 f) Y := mup_of rfl
theorem mu151 (X : mX) (Y : mY) (f : Nat → Int32) : va_up (mem X Y) 151 (.inl (0, 8, .inl f)) = mem (va_up X 151 f) Y := mup_of rfl
theorem mu152 (X : mX) (Y : mY) (f : Nat → Int32) : va_up (mem X Y) 152 (.inl (0, 8, .inl f)) = mem (va_up X 152 f) Y := mup_of rfl
theorem mu155 (X : mX) (Y : mY) (f : Nat → Int64) : va_up (mem X Y) 155 (.inl (3, 8, .inr (.inl f))) = mem X (va_up Y 155 f) := mup_ofL rfl
theorem mu156 (X : mX) (Y : mY) (f : Nat → Int32) : va_up (mem X Y) 156 (.inl (0, 8, .inl f)) = mem (va_up X 156 f) Y := mup_of rfl
theorem mu157 (X : mX) (Y : mY) (f : Nat → Int32) : va_up (mem X Y) 157 (.inl (0, 8, .inl f)) = mem (va_up X 157 f) Y := mup_of rfl
theorem mu158 (X : mX) (Y : mY) (f : Nat → Int64) : va_up (mem X Y) 158 (.inl (3, 8, .inr (.inl f))) = mem X (va_up Y 158 f) := mup_ofL rfl
theorem mu159 (X : mX) (Y : mY) (f : Nat → Int32) : va_up (mem X Y) 159 (.inl (0, 8, .inl f)) = mem (va_up X 159 f) Y := mup_of rfl
theorem mu160 (X : mX) (Y : mY) (f : Nat → Int32) : va_up (mem X Y) 160 (.inl (0, 8, .inl f)) = mem (va_up X 160 f) Y := mup_of rfl
theorem mu161 (X : mX) (Y : mY) (f : Nat → Int32) : va_up (mem X Y) 161 (.inl (0, 8, .inl f)) = mem (va_up X 161 f) Y := mup_of rfl
theorem mu163 (X : mX) (Y : mY) (f : Nat → Int32) : va_up (mem X Y) 163 (.inl (0, 40, .inl f)) = mem (va_up X 163 f) Y := mup_of rfl
theorem mu164 (X : mX) (Y : mY) (f : Nat → Int32) : va_up (mem X Y) 164 (.inl (0, 40, .inl f)) = mem (va_up X 164 f) Y := mup_of rfl
theorem mu165 (X : mX) (Y : mY) (f : Nat → Int32) : va_up (mem X Y) 165 (.inl (0, 40, .inl f)) = mem (va_up X 165 f) Y := mup_of rfl
theorem mu166 (X : mX) (Y : mY) (f : Nat → Int32) : va_up (mem X Y) 166 (.inl (0, 40, .inl f)) = mem (va_up X 166 f) Y := mup_of rfl
theorem mu168 (X : mX) (Y : mY) (f : Nat → Int32) : va_up (mem X Y) 168 (.inl (0, 8, .inl f)) = mem (va_up X 168 f) Y := mup_of rfl
theorem mu169 (X : mX) (Y : mY) (f : Nat → Int32) : va_up (mem X Y) 169 (.inl (0, 8, .inl f)) = mem (va_up X 169 f) Y := mup_of rfl
theorem mu170 (X : mX) (Y : mY) (f : Nat → Int32) : va_up (mem X Y) 170 (.inl (0, 8, .inl f)) = mem (va_up X 170 f) Y := mup_of rfl
theorem mu171 (X : mX) (Y : mY) (f : Nat → Int32) : va_up (mem X Y) 171 (.inl (0, 8, .inl f)) = mem (va_up X 171 f) Y := mup_of rfl
theorem mu172 (X : mX) (Y : mY) (f : Nat → Int32) : va_up (mem X Y) 172 (.inl (0, 64, .inl f)) = mem (va_up X 172 f) Y := mup_of rfl
theorem mu173 (X : mX) (Y : mY) (f : Nat → Int32) : va_up (mem X Y) 173 (.inl (0, 8, .inl f)) = mem (va_up X 173 f) Y := mup_of rfl
theorem mu174 (X : mX) (Y : mY) (f : Nat → Int32) : va_up (mem X Y) 174 (.inl (0, 8, .inl f)) = mem (va_up X 174 f) Y := mup_of rfl
theorem mu175 (X : mX) (Y : mY) (f : Nat → Int32) : va_up (mem X Y) 175 (.inl (0, 8, .inl f)) = mem (va_up X 175 f) Y := mup_of rfl
theorem mu178 (X : mX) (Y : mY) (f : Nat → Int64) : va_up (mem X Y) 178 (.inl (3, 8, .inr (.inl f))) = mem X (va_up Y 178 f) := mup_ofL rfl
theorem mu179 (X : mX) (Y : mY) (f : Nat → Int32) : va_up (mem X Y) 179 (.inl (0, 8, .inl f)) = mem (va_up X 179 f) Y := mup_of rfl
theorem mu180 (X : mX) (Y : mY) (f : Nat → Int32) : va_up (mem X Y) 180 (.inl (0, 8, .inl f)) = mem (va_up X 180 f) Y := mup_of rfl
theorem mu181 (X : mX) (Y : mY) (f : Nat → Int64) : va_up (mem X Y) 181 (.inl (3, 8, .inr (.inl f))) = mem X (va_up Y 181 f) := mup_ofL rfl
theorem mu182 (X : mX) (Y : mY) (f : Nat → Int32) : va_up (mem X Y) 182 (.inl (0, 8, .inl f)) = mem (va_up X 182 f) Y := mup_of rfl
theorem mu183 (X : mX) (Y : mY) (f : Nat → Int32) : va_up (mem X Y) 183 (.inl (0, 8, .inl f)) = mem (va_up X 183 f) Y := mup_of rfl
theorem mu184 (X : mX) (Y : mY) (f : Nat → Int32) : va_up (mem X Y) 184 (.inl (0, 8, .inl f)) = mem (va_up X 184 f) Y := mup_of rfl
theorem mu186 (X : mX) (Y : mY) (f : Nat → Int32) : va_up (mem X Y) 186 (.inl (0, 40, .inl f)) = mem (va_up X 186 f) Y := mup_of rfl
theorem mu187 (X : mX) (Y : mY) (f : Nat → Int32) : va_up (mem X Y) 187 (.inl (0, 40, .inl f)) = mem (va_up X 187 f) Y := mup_of rfl
theorem mu188 (X : mX) (Y : mY) (f : Nat → Int32) : va_up (mem X Y) 188 (.inl (0, 40, .inl f)) = mem (va_up X 188 f) Y := mup_of rfl
theorem mu189 (X : mX) (Y : mY) (f : Nat → Int32) : va_up (mem X Y) 189 (.inl (0, 40, .inl f)) = mem (va_up X 189 f) Y := mup_of rfl
theorem mu191 (X : mX) (Y : mY) (f : Nat → Int32) : va_up (mem X Y) 191 (.inl (0, 8, .inl f)) = mem (va_up X 191 f) Y := mup_of rfl
theorem mu192 (X : mX) (Y : mY) (f : Nat → Int32) : va_up (mem X Y) 192 (.inl (0, 8, .inl f)) = mem (va_up X 192 f) Y := mup_of rfl
theorem mu193 (X : mX) (Y : mY) (f : Nat → Int32) : va_up (mem X Y) 193 (.inl (0, 8, .inl f)) = mem (va_up X 193 f) Y := mup_of rfl
theorem mu194 (X : mX) (Y : mY) (f : Nat → Int32) : va_up (mem X Y) 194 (.inl (0, 8, .inl f)) = mem (va_up X 194 f) Y := mup_of rfl
theorem mu195 (X : mX) (Y : mY) (f : Nat → Int32) : va_up (mem X Y) 195 (.inl (0, 64, .inl f)) = mem (va_up X 195 f) Y := mup_of rfl
theorem mu196 (X : mX) (Y : mY) (f : Nat → Int32) : va_up (mem X Y) 196 (.inl (0, 8, .inl f)) = mem (va_up X 196 f) Y := mup_of rfl
theorem mu197 (X : mX) (Y : mY) (f : Nat → Int32) : va_up (mem X Y) 197 (.inl (0, 8, .inl f)) = mem (va_up X 197 f) Y := mup_of rfl
theorem mu198 (X : mX) (Y : mY) (f : Nat → Int32) : va_up (mem X Y) 198 (.inl (0, 8, .inl f)) = mem (va_up X 198 f) Y := mup_of rfl
theorem mu200 (X : mX) (Y : mY) (f : Nat → Int32) : va_up (mem X Y) 200 (.inl (1, 940, .inl f)) = mem (va_up X 200 f) Y := mup_of rfl
theorem mu201 (X : mX) (Y : mY) (f : Nat → Int32) : va_up (mem X Y) 201 (.inl (0, 438, .inl f)) = mem (va_up X 201 f) Y := mup_of rfl
theorem mu202 (X : mX) (Y : mY) (f : Nat → Int32) : va_up (mem X Y) 202 (.inl (0, 132, .inl f)) = mem (va_up X 202 f) Y := mup_of rfl
theorem mu203 (X : mX) (Y : mY) (f : Nat → Int32) : va_up (mem X Y) 203 (.inl (0, 135, .inl f)) = mem (va_up X 203 f) Y := mup_of rfl
theorem mu204 (X : mX) (Y : mY) (f : Nat → Int64) : va_up (mem X Y) 204 (.inl (3, 32, .inr (.inl f))) = mem X (va_up Y 204 f) := mup_ofL rfl
theorem mu205 (X : mX) (Y : mY) (f : Nat → Int64) : va_up (mem X Y) 205 (.inl (3, 21, .inr (.inl f))) = mem X (va_up Y 205 f) := mup_ofL rfl
theorem mu206 (X : mX) (Y : mY) (f : Nat → Int32) : va_up (mem X Y) 206 (.inl (0, 9, .inl f)) = mem (va_up X 206 f) Y := mup_of rfl
theorem mu207 (X : mX) (Y : mY) (f : Nat → Int32) : va_up (mem X Y) 207 (.inl (0, 8, .inl f)) = mem (va_up X 207 f) Y := mup_of rfl
theorem mu208 (X : mX) (Y : mY) (f : Nat → Int32) : va_up (mem X Y) 208 (.inl (0, 1000, .inl f)) = mem (va_up X 208 f) Y := mup_of rfl
theorem mu209 (X : mX) (Y : mY) (f : Nat → Int32) : va_up (mem X Y) 209 (.inl (0, 125, .inl f)) = mem (va_up X 209 f) Y := mup_of rfl
theorem mu210 (X : mX) (Y : mY) (f : Nat → Int32) : va_up (mem X Y) 210 (.inl (0, 8, .inl f)) = mem (va_up X 210 f) Y := mup_of rfl
theorem mu211 (X : mX) (Y : mY) (f : Nat → Int32) : va_up (mem X Y) 211 (.inl (0, 8, .inl f)) = mem (va_up X 211 f) Y := mup_of rfl
theorem mu212 (X : mX) (Y : mY) (f : Nat → Int32) : va_up (mem X Y) 212 (.inl (0, 8, .inl f)) = mem (va_up X 212 f) Y := mup_of rfl
theorem mu213 (X : mX) (Y : mY) (f : Nat → Int32) : va_up (mem X Y) 213 (.inl (0, 8, .inl f)) = mem (va_up X 213 f) Y := mup_of rfl
theorem mu214 (X : mX) (Y : mY) (f : Nat → Int32) : va_up (mem X Y) 214 (.inl (0, 8, .inl f)) = mem (va_up X 214 f) Y := mup_of rfl
theorem mu215 (X : mX) (Y : mY) (f : Nat → Int32) : va_up (mem X Y) 215 (.inl (0, 8, .inl f)) = mem (va_up X 215 f) Y := mup_of rfl
theorem mu216 (X : mX) (Y : mY) (f : Nat → Int32) : va_up (mem X Y) 216 (.inl (0, 90, .inl f)) = mem (va_up X 216 f) Y := mup_of rfl
theorem mu217 (X : mX) (Y : mY) (f : Nat → Int32) : va_up (mem X Y) 217 (.inl (0, 90, .inl f)) = mem (va_up X 217 f) Y := mup_of rfl
theorem mu218 (X : mX) (Y : mY) (f : Nat → Int32) : va_up (mem X Y) 218 (.inl (0, 90, .inl f)) = mem (va_up X 218 f) Y := mup_of rfl
theorem mu219 (X : mX) (Y : mY) (f : Nat → Int32) : va_up (mem X Y) 219 (.inl (0, 8, .inl f)) = mem (va_up X 219 f) Y := mup_of rfl
theorem mu220 (X : mX) (Y : mY) (f : Nat → Int32) : va_up (mem X Y) 220 (.inl (0, 3, .inl f)) = mem (va_up X 220 f) Y := mup_of rfl
theorem mu221 (X : mX) (Y : mY) (f : Nat → Int32) : va_up (mem X Y) 221 (.inl (0, 3, .inl f)) = mem (va_up X 221 f) Y := mup_of rfl
theorem mu222 (X : mX) (Y : mY) (f : Nat → Int32) : va_up (mem X Y) 222 (.inl (0, 3, .inl f)) = mem (va_up X 222 f) Y := mup_of rfl
theorem mu223 (X : mX) (Y : mY) (f : Nat → Int32) : va_up (mem X Y) 223 (.inl (0, 3, .inl f)) = mem (va_up X 223 f) Y := mup_of rfl
theorem mu224 (X : mX) (Y : mY) (f : Nat → Int32) : va_up (mem X Y) 224 (.inl (0, 4, .inl f)) = mem (va_up X 224 f) Y := mup_of rfl
theorem mu225 (X : mX) (Y : mY) (f : Nat → Int32) : va_up (mem X Y) 225 (.inl (0, 45, .inl f)) = mem (va_up X 225 f) Y := mup_of rfl
theorem mu226 (X : mX) (Y : mY) (f : Nat → Int32) : va_up (mem X Y) 226 (.inl (2, 45, .inl f)) = mem (va_up X 226 f) Y := mup_of rfl
theorem mu227 (X : mX) (Y : mY) (f : Nat → Int32) : va_up (mem X Y) 227 (.inl (0, 876, .inl f)) = mem (va_up X 227 f) Y := mup_of rfl
theorem mu228 (X : mX) (Y : mY) (f : Nat → Int64) : va_up (mem X Y) 228 (.inl (3, 32, .inr (.inl f))) = mem X (va_up Y 228 f) := mup_ofL rfl
theorem mu229 (X : mX) (Y : mY) (f : Nat → Int32) : va_up (mem X Y) 229 (.inl (2, 2, .inl f)) = mem (va_up X 229 f) Y := mup_of rfl
theorem mu230 (X : mX) (Y : mY) (f : Nat → Int64) : va_up (mem X Y) 230 (.inl (3, 1, .inr (.inl f))) = mem X (va_up Y 230 f) := mup_ofL rfl
end MEM
