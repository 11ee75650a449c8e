/-! THE ABSTRACT INTERPRETER: locals, stack, and a memory of cells named by their numbers (the order of their making). Every way in which the machine could throw by itself is tested: then it answers none. -/
section AID
abbrev ai_M : Type := Nat → va_E
abbrev ai_L : Type := List (Option Value)
/-- where a run stops (at a return, or at a throw): pc, locals, stack, cells, slots, memory -/
abbrev ai_C : Type := Nat × ai_L × List Value × Nat × Nat × ai_M
def ai_at : ai_L → Nat → Option Value
  | [], _ => none
  | a :: _, 0 => a
  | _ :: l, n + 1 => ai_at l n
def ai_nl : Option Value → Option Value
  | some (.long _) => none
  | some (.double _) => none
  | a => a
/-- a value of one slot is stored; a long that reached into its place is gone -/
def ai_set : ai_L → Nat → Value → ai_L
  | [], _, _ => []
  | _ :: l, 0, v => some v :: l
  | a :: [], _ + 1, _ => ai_nl a :: []
  | a :: _ :: l, 1, v => ai_nl a :: some v :: l
  | a :: b :: l, n + 2, v => a :: ai_set (b :: l) (n + 1) v
def ai_set2 : ai_L → Nat → Value → ai_L
  | [], _, _ => []
  | _ :: [], 0, v => some v :: []
  | _ :: _ :: l, 0, v => some v :: none :: l
  | a :: [], _ + 1, _ => ai_nl a :: []
  | a :: _ :: [], 1, v => ai_nl a :: some v :: []
  | a :: _ :: _ :: l, 1, v => ai_nl a :: some v :: none :: l
  | a :: b :: l, n + 2, v => a :: ai_set2 (b :: l) (n + 1) v
/-- the locals with which a method begins -/
def ai_ar : List Value → ai_L
  | [] => []
  | .long x :: vs => some (.long x) :: none :: ai_ar vs
  | .double x :: vs => some (.double x) :: none :: ai_ar vs
  | v :: vs => some v :: ai_ar vs
def ai_en (vs : List Value) (n : Nat) : ai_L := ai_ar vs ++ List.replicate (n - (ai_ar vs).length) none
def ai_len : Instr → Nat
  | .bipush _ => 2
  | .sipush _ => 3
  | .iload _ => 2
  | .lload _ => 2
  | .aload _ => 2
  | .istore _ => 2
  | .lstore _ => 2
  | .astore _ => 2
  | .iinc _ _ => 3
  | .if_icmp _ _ => 3
  | .ifCond _ _ => 3
  | .goto _ => 3
  | .ldc _ => 2
  | .ldc_w _ => 3
  | .ldc2_w _ => 3
  | .getfield _ => 3
  | .putfield _ => 3
  | .new _ => 3
  | .newarray _ => 2
  | .anewarray _ => 3
  | .invokevirtual _ => 3
  | .invokespecial _ => 3
  | .invokestatic _ => 3
  | _ => 1
def ai_j {α : Type} (bad : α) (pc : Nat) (off : Int) (L : ai_L) (st : List Value) (k : Nat → ai_L → List Value → α) : α := if 0 ≤ (pc : Int) + off then k ((pc : Int) + off).toNat L st else bad
def ai_ld {α : Type} (bad : α) (L : ai_L) (j pc : Nat) (st : List Value) (k : Nat → ai_L → List Value → α) : α := match ai_at L j with
  | some v => k pc L (v :: st)
  | none => bad
def ai_isI (v : Option Value) : Bool := match v with
  | some (.int _) => true
  | _ => false
def ai_isJ (v : Option Value) : Bool := match v with
  | some (.long _) => true
  | _ => false
def ai_isA (v : Option Value) : Bool := match v with
  | some (.ref _) => true
  | _ => false
def ai_2i {α : Type} (bad : α) (st : List Value) (k : Int32 → Int32 → List Value → α) : α := match st with
  | .int y :: .int x :: st => k x y st
  | _ => bad
def ai_2l {α : Type} (bad : α) (st : List Value) (k : Int64 → Int64 → List Value → α) : α := match st with
  | .long y :: .long x :: st => k x y st
  | _ => bad
def ai_1i {α : Type} (bad : α) (st : List Value) (k : Int32 → List Value → α) : α := match st with
  | .int x :: st => k x st
  | _ => bad
def ai_cn {α : Type} (c : Jvm.ClassFile.Cond) (x y : Int32) (a b : α) : α := match c with
  | .eq => if x = y then a else b
  | .ne => if x = y then b else a
  | .lt => if x < y then a else b
  | .ge => if y ≤ x then a else b
  | .gt => if y < x then a else b
  | .le => if x ≤ y then a else b
/-- an instruction on locals and stack alone -/
def ai_p {α : Type} (bad : α) (i : Instr) (pc : Nat) (L : ai_L) (st : List Value) (k : Nat → ai_L → List Value → α) : α :=
  match i with
  | .iconst j => k (pc + 1) L (.int (Int32.ofInt j) :: st)
  | .bipush j => k (pc + 2) L (.int (Int8.ofInt j).toInt32 :: st)
  | .sipush j => k (pc + 3) L (.int (Int16.ofInt j).toInt32 :: st)
  | .lconst j => k (pc + 1) L (.long (Int64.ofNat (j : Nat)) :: st)
  | .iload j => if ai_isI (ai_at L j) then ai_ld bad L j (pc + 2) st k else bad
  | .iload_n j => if ai_isI (ai_at L j) then ai_ld bad L j (pc + 1) st k else bad
  | .lload j => if ai_isJ (ai_at L j) then ai_ld bad L j (pc + 2) st k else bad
  | .lload_n j => if ai_isJ (ai_at L j) then ai_ld bad L j (pc + 1) st k else bad
  | .aload j => if ai_isA (ai_at L j) then ai_ld bad L j (pc + 2) st k else bad
  | .aload_n j => if ai_isA (ai_at L j) then ai_ld bad L j (pc + 1) st k else bad
  | .istore j => if j < L.length then ai_1i bad st fun x st => k (pc + 2) (ai_set L j (.int x)) st else bad
  | .istore_n j => if j < L.length then ai_1i bad st fun x st => k (pc + 1) (ai_set L j (.int x)) st else bad
  | .lstore j => if j + 1 < L.length then (match st with
      | .long x :: st => k (pc + 2) (ai_set2 L j (.long x)) st
      | _ => bad) else bad
  | .lstore_n j => if (j : Nat) + 1 < L.length then (match st with
      | .long x :: st => k (pc + 1) (ai_set2 L j (.long x)) st
      | _ => bad) else bad
  | .astore j => if j < L.length then (match st with
      | .ref x :: st => k (pc + 2) (ai_set L j (.ref x)) st
      | _ => bad) else bad
  | .astore_n j => if j < L.length then (match st with
      | .ref x :: st => k (pc + 1) (ai_set L j (.ref x)) st
      | _ => bad) else bad
  | .iinc j n => match ai_at L j with
      | some (.int x) => if j < L.length then k (pc + 3) (ai_set L j (.int (x + Int32.ofInt n))) st else bad
      | _ => bad
  | .iadd => ai_2i bad st fun x y st => k (pc + 1) L (.int (x + y) :: st)
  | .isub => ai_2i bad st fun x y st => k (pc + 1) L (.int (x - y) :: st)
  | .imul => ai_2i bad st fun x y st => k (pc + 1) L (.int (x * y) :: st)
  | .idiv => ai_2i bad st fun x y st => if y = 0 then bad else k (pc + 1) L (.int (x / y) :: st)
  | .irem => ai_2i bad st fun x y st => if y = 0 then bad else k (pc + 1) L (.int (x - x / y * y) :: st)
  | .iand => ai_2i bad st fun x y st => k (pc + 1) L (.int (x &&& y) :: st)
  | .ior => ai_2i bad st fun x y st => k (pc + 1) L (.int (x ||| y) :: st)
  | .ixor => ai_2i bad st fun x y st => k (pc + 1) L (.int (x ^^^ y) :: st)
  | .ishl => ai_2i bad st fun x y st => k (pc + 1) L (.int (x <<< (y &&& 31)) :: st)
  | .ishr => ai_2i bad st fun x y st => k (pc + 1) L (.int (x >>> (y &&& 31)) :: st)
  | .iushr => ai_2i bad st fun x y st => k (pc + 1) L (.int (x.toUInt32 >>> (y.toUInt32 &&& Int32.toUInt32 31)).toInt32 :: st)
  | .ineg => ai_1i bad st fun x st => k (pc + 1) L (.int (-x) :: st)
  | .i2l => ai_1i bad st fun x st => k (pc + 1) L (.long x.toInt64 :: st)
  | .i2b => ai_1i bad st fun x st => k (pc + 1) L (.int x.toInt8.toInt32 :: st)
  | .ladd => ai_2l bad st fun x y st => k (pc + 1) L (.long (x + y) :: st)
  | .lmul => ai_2l bad st fun x y st => k (pc + 1) L (.long (x * y) :: st)
  | .lor => ai_2l bad st fun x y st => k (pc + 1) L (.long (x ||| y) :: st)
  | .ldiv => ai_2l bad st fun x y st => if y = 0 then bad else k (pc + 1) L (.long (x / y) :: st)
  | .lrem => ai_2l bad st fun x y st => if y = 0 then bad else k (pc + 1) L (.long (x - x / y * y) :: st)
  | .lcmp => ai_2l bad st fun x y st => k (pc + 1) L (.int (lg_cmp x y) :: st)
  | .lshl => match st with
      | .int y :: .long x :: st => k (pc + 1) L (.long (x <<< (y.toInt64 &&& 63)) :: st)
      | _ => bad
  | .dup => match st with
      | v :: st => if v.category = 1 then k (pc + 1) L (v :: v :: st) else bad
      | _ => bad
  | .dup2 => match st with
      | v :: w :: st => if v.category = 1 ∧ w.category = 1 then k (pc + 1) L (v :: w :: v :: w :: st) else bad
      | _ => bad
  | .pop => match st with
      | v :: st => if v.category = 1 then k (pc + 1) L st else bad
      | _ => bad
  | .goto off => ai_j bad pc off L st k
  | .ifCond c off => if 0 ≤ (pc : Int) + off then (ai_1i bad st fun x st => ai_cn c x 0 (k ((pc : Int) + off).toNat L st) (k (pc + 3) L st)) else bad
  | .if_icmp c off => if 0 ≤ (pc : Int) + off then (ai_2i bad st fun x y st => ai_cn c x y (k ((pc : Int) + off).toNat L st) (k (pc + 3) L st)) else bad
  | _ => bad
/-- switches: by their own length -/
def ai_sw {α : Type} (bad : α) (i : Instr) (pc : Nat) (L : ai_L) (st : List Value) (k : Nat → ai_L → List Value → α) : α :=
  match i with
  | .tableswitch dflt lo hi offs => ai_1i bad st fun x st => if x.toInt < lo ∨ hi < x.toInt then ai_j bad pc dflt L st k else (match offs[(x.toInt - lo).toNat]? with
      | some off => ai_j bad pc off L st k
      | none => bad)
  | .lookupswitch dflt ps => ai_1i bad st fun x st => if (ps.toList.zip (ps.toList.drop 1)).all (fun (a, next) => a.1 < next.1) = true then ai_j bad pc (Op.lookupswitch.offset ps.toList dflt x.toInt) L st k else bad
  | _ => bad
end AID
