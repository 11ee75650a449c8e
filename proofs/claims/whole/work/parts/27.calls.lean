/-! FIELDS READ AND CALLS, where memory is numbers -/
section MEC
variable {G : ai_G} {d sl : Nat} {L : ai_L} {st : List Value} {X : mX} {Y : mY} {Q : List Value → Nat → Nat → ai_M → Prop}
theorem mem_obj {o ci : Nat} {rs : List Nat} (hs : shC o = (6, ci, rs)) : mem X Y o = .inr (ci, memF X Y o rs 0 (fdC ci)) := by show memE X Y o (shC o) = _; rw [hs]; rfl
theorem aw_gf {mi pc j ci q o fin : Nat} {rs : List Nat} {v : Value} (hd : ai_dec ET mi pc = some (.getfield j, 3)) (hp : ai_pool ET (ai_own ET mi) j = some (0, ci, q, fin)) (hs : shC o = (6, ci, rs)) (hv : (memF X Y o rs 0 (fdC ci))[q]? = some v) (ho : o < 231) (hn : q < ai_nf ET ci) : aw ET G d mi pc L (.ref o :: st) 231 sl (mem X Y) Q = aw ET G d mi (pc + 3) L (v :: st) 231 sl (mem X Y) Q := by
  rw [aw_eq hd]
  simp only [aw_st, ai_cls, ai_len, if_true, ai_m, hp, ho, mem_obj hs, hn, and_self, hv]
theorem aw_ivV {mi mj pc j na kd ci o : Nat} {rs : List Nat} {A : List Value} {E : ai_L} (hd : ai_dec ET mi pc = some (.invokevirtual j, 3)) (hp : ai_pool ET (ai_own ET mi) j = some (1, mj, na, kd)) (hk : kd = 0 ∨ kd = 3) (hA : A.length = na) (hs : shC o = (6, ci, rs)) (how : ai_own ET mj = ci) (ho : o < 231) (hE : ai_en (.ref o :: A.reverse) (ai_mx ET mj) = E) (hl : (ai_ar (.ref o :: A.reverse)).length ≤ ai_mx ET mj) (hm : ai_mx ET mj ≤ 41) : aw ET G (d + 1) mi pc L (A ++ .ref o :: st) 231 sl (mem X Y) Q = if ai_sm st ≤ 8 then aw ET G d mj 0 E [] 231 sl (mem X Y) (fun r n sl M => aw ET G (d + 1) mi (pc + 3) L (r ++ st) n sl M Q) else False := by
  have h1 : (A ++ .ref o :: st).drop na = .ref o :: st := by rw [← hA]; exact List.drop_left
  have h2 : ((A ++ .ref o :: st).take (na + 1)).reverse = .ref o :: A.reverse := by
    rw [show A ++ .ref o :: st = (A ++ [.ref o]) ++ st by simp, show na + 1 = (A ++ [Value.ref o]).length by simp [hA], List.take_left]
    simp
  have h3 : (A ++ .ref o :: st).drop (na + 1) = st := by
    rw [show A ++ .ref o :: st = (A ++ [.ref o]) ++ st by simp, show na + 1 = (A ++ [Value.ref o]).length by simp [hA], List.drop_left]
  have h4 : na + 1 ≤ (A ++ .ref o :: st).length := by simp [hA]
  have ht : ai_this ET 231 (mem X Y) mj na (A ++ .ref o :: st) = true := by
    unfold ai_this
    rw [h1]
    simp [mem_obj hs, how, ho]
  have hk1 : ¬ kd = 1 := by omega
  rw [aw_eq hd]
  simp only [aw_st, ai_cls, ai_len, if_true, ai_c, hp, hk, ht, and_self, aw_go, hk1, if_false, h2, h3, h4, hE, hl, hm, true_and, and_true]
theorem aw_ivI {mi mj pc j na kd ci o : Nat} {rs : List Nat} {A : List Value} {E : ai_L} (hd : ai_dec ET mi pc = some (.invokespecial j, 3)) (hp : ai_pool ET (ai_own ET mi) j = some (1, mj, na, kd)) (hk : kd = 2 ∨ kd = 4) (hA : A.length = na) (hs : shC o = (6, ci, rs)) (how : ai_own ET mj = ci) (ho : o < 231) (hE : ai_en (.ref o :: A.reverse) (ai_mx ET mj) = E) (hl : (ai_ar (.ref o :: A.reverse)).length ≤ ai_mx ET mj) (hm : ai_mx ET mj ≤ 41) : aw ET G (d + 1) mi pc L (A ++ .ref o :: st) 231 sl (mem X Y) Q = if ai_sm st ≤ 8 then aw ET G d mj 0 E [] 231 sl (mem X Y) (fun r n sl M => aw ET G (d + 1) mi (pc + 3) L (r ++ st) n sl M Q) else False := by
  have h1 : (A ++ .ref o :: st).drop na = .ref o :: st := by rw [← hA]; exact List.drop_left
  have h2 : ((A ++ .ref o :: st).take (na + 1)).reverse = .ref o :: A.reverse := by
    rw [show A ++ .ref o :: st = (A ++ [.ref o]) ++ st by simp, show na + 1 = (A ++ [Value.ref o]).length by simp [hA], List.take_left]
    simp
  have h3 : (A ++ .ref o :: st).drop (na + 1) = st := by
    rw [show A ++ .ref o :: st = (A ++ [.ref o]) ++ st by simp, show na + 1 = (A ++ [Value.ref o]).length by simp [hA], List.drop_left]
  have h4 : na + 1 ≤ (A ++ .ref o :: st).length := by simp [hA]
  have ht : ai_this ET 231 (mem X Y) mj na (A ++ .ref o :: st) = true := by
    unfold ai_this
    rw [h1]
    simp [mem_obj hs, how, ho]
  have hk1 : ¬ kd = 1 := by omega
  rw [aw_eq hd]
  simp only [aw_st, ai_cls, ai_len, if_true, ai_c, hp, hk, ht, and_self, aw_go, hk1, if_false, h2, h3, h4, hE, hl, hm, true_and, and_true]
theorem aw_ivS {n : Nat} {M : ai_M} {mi mj pc j na : Nat} {A : List Value} {E : ai_L} (hd : ai_dec ET mi pc = some (.invokestatic j, 3)) (hp : ai_pool ET (ai_own ET mi) j = some (1, mj, na, 1)) (hA : A.length = na) (hE : ai_en A.reverse (ai_mx ET mj) = E) (hl : (ai_ar A.reverse).length ≤ ai_mx ET mj) (hm : ai_mx ET mj ≤ 41) : aw ET G (d + 1) mi pc L (A ++ st) n sl M Q = if ai_sm st ≤ 8 then aw ET G d mj 0 E [] n sl M (fun r n sl M => aw ET G (d + 1) mi (pc + 3) L (r ++ st) n sl M Q) else False := by
  have h2 : (A ++ st).take na = A := by rw [← hA]; exact List.take_left
  have h3 : (A ++ st).drop na = st := by rw [← hA]; exact List.drop_left
  have h4 : na ≤ (A ++ st).length := by simp [hA]
  rw [aw_eq hd]
  simp only [aw_st, ai_cls, ai_len, if_true, ai_c, hp, aw_go, h2, h3, h4, hE, hl, hm, true_and, and_true]
/-- whose charter, whose parts -/
def chO (o : Nat) : Nat := if o = 19 then 6 else if o = 167 then 154 else if o = 190 then 177 else 47
def pcC (o : Nat) : Nat := if o = 5 then 6 else if o = 55 then 47 else if o = 153 then 154 else 177
def pcL (o : Nat) : Nat := if o = 5 then 19 else if o = 55 then 61 else if o = 153 then 167 else 190
def pcS (o : Nat) : Nat := if o = 5 then 14 else if o = 55 then 56 else if o = 153 then 162 else 185
end MEC
