/-! THE ABSTRACT INTERPRETER, II: memory, calls, the run -/
section AIR
/-- the tables of a program: instructions by method and place; a method's owner, locals, answer; an owner's pool (kind, three numbers); fields' types, how many; whose objects an array holds, by its kind; what the library's own do; is it a constructor -/
abbrev ai_T : Type := (Nat → Nat → Option (Instr × Nat)) × (Nat → Nat) × (Nat → Nat) × (Nat → Option FieldType) × (Nat → Nat → Option (Nat × Nat × Nat × Nat)) × (Nat → Nat → FieldType) × (Nat → Nat) × (Nat → Option Nat) × (Nat → List Value → Option (List Value)) × (Nat → Bool)
def ai_dec (T : ai_T) : Nat → Nat → Option (Instr × Nat) := T.1
def ai_own (T : ai_T) : Nat → Nat := T.2.1
def ai_mx (T : ai_T) : Nat → Nat := T.2.2.1
def ai_rt (T : ai_T) : Nat → Option FieldType := T.2.2.2.1
def ai_pool (T : ai_T) : Nat → Nat → Option (Nat × Nat × Nat × Nat) := T.2.2.2.2.1
def ai_fty (T : ai_T) : Nat → Nat → FieldType := T.2.2.2.2.2.1
def ai_nf (T : ai_T) : Nat → Nat := T.2.2.2.2.2.2.1
def ai_kob (T : ai_T) : Nat → Option Nat := T.2.2.2.2.2.2.2.1
def ai_hook (T : ai_T) : Nat → List Value → Option (List Value) := T.2.2.2.2.2.2.2.2.1
def ai_ini (T : ai_T) : Nat → Bool := T.2.2.2.2.2.2.2.2.2
/-- may cells be made; the law's script -/
abbrev ai_G : Type := Bool × Nat × (Nat → Int32)
def ai_ib (i : Int32) (n : Nat) : Bool := !(decide (i < 0) || decide (n ≤ i.toNatClampNeg))
def ai_kd : ArrayType → Option Nat
  | .int => some 0
  | .byte => some 1
  | .boolean => some 2
  | .long => some 3
  | _ => none
def ai_zero (kd N : Nat) : vp_A := if kd = 3 then (N, .inr (.inl (fun _ => 0))) else (N, .inl (fun _ => 0))
def ai_ft : FieldType → Value → Bool
  | .int, .int _ => true
  | .boolean, .int x => decide (x = 0) || decide (x = 1)
  | .long, .long _ => true
  | .object _, .ref _ => true
  | .array _, .ref _ => true
  | _, _ => false
def ai_nar (kd : Nat) (x : Int32) : Int32 := if kd = 1 then vp_nar .byte x else vp_nar .boolean x
def ai_new (T : ai_T) (ci : Nat) : va_E := .inr (ci, (List.range (ai_nf T ci)).map (fun j => defaultValue (ai_fty T ci j)))
/-- an instruction that reads, writes or makes cells, or reads the pool -/
def ai_m {α : Type} (bad stop : α) (T : ai_T) (G : ai_G) (c : Nat) (ini : Bool) (i : Instr) (pc : Nat) (L : ai_L) (st : List Value) (n sl : Nat) (M : ai_M) (k : Nat → ai_L → List Value → Nat → Nat → ai_M → α) : α :=
  match i with
  | .ldc j => match ai_pool T c j with
    | some (7, v, _, _) => k (pc + 2) L (.int (Int32.ofNat v) :: st) n sl M
    | some (6, id, _, _) => (match ai_hook T id st with
      | some st' => k (pc + 2) L st' n sl M
      | none => bad)
    | _ => bad
  | .ldc_w j => match ai_pool T c j with
    | some (7, v, _, _) => k (pc + 3) L (.int (Int32.ofNat v) :: st) n sl M
    | _ => bad
  | .ldc2_w j => match ai_pool T c j with
    | some (8, v, _, _) => k (pc + 3) L (.long (Int64.ofNat v) :: st) n sl M
    | _ => bad
  | .getfield j => match ai_pool T c j, st with
    | some (0, ci, kf, _), .ref o :: st => if o < n then (match M o with
      | .inr (cj, fs) => if cj = ci ∧ kf < ai_nf T ci then (match fs[kf]? with
        | some v => k (pc + 3) L (v :: st) n sl M
        | none => bad) else bad
      | _ => bad) else bad
    | _, _ => bad
  | .putfield j => match ai_pool T c j, st with
    | some (0, ci, kf, fin), v :: .ref o :: st => if o < n ∧ (fin = 0 ∨ (fin = 1 ∧ ini = true)) then (match M o with
      | .inr (cj, fs) => if cj = ci ∧ kf < ai_nf T ci ∧ kf < fs.length ∧ ai_ft (ai_fty T ci kf) v = true then k (pc + 3) L st n sl (va_up M o (.inr (cj, fs.set kf v))) else bad
      | _ => bad) else bad
    | _, _ => bad
  | .iaload => match st with
    | .int x :: .ref o :: st => if o < n then (match M o with
      | .inl (kd, N, .inl f) => if kd = 0 ∧ ai_ib x N = true then k (pc + 1) L (.int (f x.toNatClampNeg) :: st) n sl M else bad
      | _ => bad) else if o = 1000000 ∧ ai_ib x G.2.1 = true then k (pc + 1) L (.int (G.2.2 x.toNatClampNeg) :: st) n sl M else bad
    | _ => bad
  | .baload => match st with
    | .int x :: .ref o :: st => if o < n then (match M o with
      | .inl (kd, N, .inl f) => if (kd = 1 ∨ kd = 2) ∧ ai_ib x N = true then k (pc + 1) L (.int (f x.toNatClampNeg) :: st) n sl M else bad
      | _ => bad) else bad
    | _ => bad
  | .laload => match st with
    | .int x :: .ref o :: st => if o < n then (match M o with
      | .inl (kd, N, .inr (.inl f)) => if kd = 3 ∧ ai_ib x N = true then k (pc + 1) L (.long (f x.toNatClampNeg) :: st) n sl M else bad
      | _ => bad) else bad
    | _ => bad
  | .aaload => match st with
    | .int x :: .ref o :: st => if o < n then (match M o with
      | .inl (kd, N, .inr (.inr (.inr (.inr f)))) => if (ai_kob T kd).isSome = true ∧ ai_ib x N = true then (match f x.toNatClampNeg with
        | some r => k (pc + 1) L (.ref r :: st) n sl M
        | none => bad) else bad
      | _ => bad) else bad
    | _ => bad
  | .arraylength => match st with
    | .ref o :: st => if o < n then (match M o with
      | .inl (kd, N, .inl _) => if kd < 3 then k (pc + 1) L (.int (Int32.ofNat N) :: st) n sl M else bad
      | _ => bad) else if o = 1000000 then k (pc + 1) L (.int (Int32.ofNat G.2.1) :: st) n sl M else bad
    | _ => bad
  | .iastore => match st with
    | .int v :: .int x :: .ref o :: st => if o < n then (match M o with
      | .inl (kd, N, .inl f) => if kd = 0 ∧ ai_ib x N = true then k (pc + 1) L st n sl (va_up M o (.inl (kd, N, .inl (upd f x.toNatClampNeg v)))) else bad
      | _ => bad) else bad
    | _ => bad
  | .bastore => match st with
    | .int v :: .int x :: .ref o :: st => if o < n then (match M o with
      | .inl (kd, N, .inl f) => if G.1 = false ∧ (kd = 1 ∨ kd = 2) ∧ ai_ib x N = true then k (pc + 1) L st n sl (va_up M o (.inl (kd, N, .inl (upd f x.toNatClampNeg (ai_nar kd v))))) else bad
      | _ => bad) else bad
    | _ => bad
  | .lastore => match st with
    | .long v :: .int x :: .ref o :: st => if o < n then (match M o with
      | .inl (kd, N, .inr (.inl f)) => if kd = 3 ∧ ai_ib x N = true then k (pc + 1) L st n sl (va_up M o (.inl (kd, N, .inr (.inl (vp_updL f x.toNatClampNeg v))))) else bad
      | _ => bad) else bad
    | _ => bad
  | .aastore => match st with
    | .ref r :: .int x :: .ref o :: st => if o < n ∧ r < n then (match M o, M r with
      | .inl (kd, N, .inr (.inr (.inr (.inr f)))), .inr (ci, _) => if ai_kob T kd = some ci ∧ ai_ib x N = true then k (pc + 1) L st n sl (va_up M o (.inl (kd, N, .inr (.inr (.inr (.inr (va_up f x.toNatClampNeg (some r)))))))) else bad
      | _, _ => bad) else bad
    | _ => bad
  | .newarray ty => match ai_kd ty, st with
    | some kd, .int x :: st => if G.1 = true ∧ n < 900000 ∧ ¬ x < 0 ∧ x.toNatClampNeg ≤ 1000000 then k (pc + 2) L (.ref n :: st) (n + 1) (sl + x.toNatClampNeg) (va_up M n (.inl (kd, ai_zero kd x.toNatClampNeg))) else bad
    | _, _ => bad
  | .anewarray j => match ai_pool T c j, st with
    | some (2, ci, kd, _), .int x :: st => if ai_kob T kd = some ci ∧ G.1 = true ∧ n < 900000 ∧ ¬ x < 0 ∧ x.toNatClampNeg ≤ 1000000 then k (pc + 3) L (.ref n :: st) (n + 1) (sl + x.toNatClampNeg) (va_up M n (.inl (kd, x.toNatClampNeg, .inr (.inr (.inr (.inr (fun _ => none))))))) else bad
    | _, _ => bad
  | .new j => match ai_pool T c j with
    | some (2, ci, _, _) => if G.1 = true ∧ n < 900000 then k (pc + 3) L (.ref n :: st) (n + 1) (sl + ai_nf T ci) (va_up M n (ai_new T ci)) else bad
    | some (9, _, _, _) => stop
    | _ => bad
  | _ => bad
/-- what a method that has stopped at its return hands to its caller -/
def ai_rs (rt : Option FieldType) (i : Option (Instr × Nat)) (st : List Value) : Option (List Value) := match rt, i, st with
  | none, some (.return_, 1), [] => some []
  | some .int, some (.ireturn, 1), [.int v] => some [.int v]
  | some .boolean, some (.ireturn, 1), [.int v] => if v = 0 ∨ v = 1 then some [.int v] else none
  | some .long, some (.lreturn, 1), [.long v] => some [.long v]
  | _, _, _ => none
def ai_sm (st : List Value) : Nat := (st.map fun v => v.category).sum
/-- a copy of a row into another one -/
def ai_cp {α : Type} (bad : α) (G : ai_G) (pc : Nat) (L : ai_L) (st : List Value) (n sl : Nat) (M : ai_M) (k : Nat → ai_L → List Value → Nat → Nat → ai_M → α) : α := match st with
  | .int len :: .int dp :: .ref o1 :: .int sp :: .ref o0 :: st => if G.1 = false ∧ o0 < n ∧ o1 < n ∧ ¬ sp < 0 ∧ ¬ dp < 0 ∧ ¬ len < 0 ∧ ai_sm st ≤ 8 then (match M o0, M o1 with
    | .inl (k0, n0, .inl f), .inl (k1, n1, .inl h) => if k0 = 0 ∧ k1 = 0 ∧ sp.toNatClampNeg + len.toNatClampNeg ≤ n0 ∧ dp.toNatClampNeg + len.toNatClampNeg ≤ n1 then k (pc + 3) L st n sl (va_up M o1 (.inl (k1, n1, .inl (va_cpy f h sp.toNatClampNeg dp.toNatClampNeg len.toNatClampNeg)))) else bad
    | .inl (k0, n0, .inr (.inl f)), .inl (k1, n1, .inr (.inl h)) => if k0 = 3 ∧ k1 = 3 ∧ sp.toNatClampNeg + len.toNatClampNeg ≤ n0 ∧ dp.toNatClampNeg + len.toNatClampNeg ≤ n1 then k (pc + 3) L st n sl (va_up M o1 (.inl (k1, n1, .inr (.inl (va_cpy f h sp.toNatClampNeg dp.toNatClampNeg len.toNatClampNeg))))) else bad
    | _, _ => bad) else bad
  | _ => bad
/-- a call of a method of the program: na arguments beside the object (kind 1: no object); the rest of the stack is small -/
def ai_go (T : ai_T) (mj na kd pc : Nat) (L : ai_L) (st : List Value) (n sl : Nat) (M : ai_M) (cr : Nat → List Value → Nat → Nat → ai_M → Option ai_C) (k : Nat → ai_L → List Value → Nat → Nat → ai_M → Option ai_C) : Option ai_C :=
  let nn := if kd = 1 then na else na + 1
  if nn ≤ st.length ∧ ai_sm (st.drop nn) ≤ 8 ∧ (ai_ar (st.take nn).reverse).length ≤ ai_mx T mj ∧ ai_mx T mj ≤ 41 then (match cr mj (st.take nn).reverse n sl M with
    | some (pc', L', st', n', sl', M') => (match ai_rs (ai_rt T mj) (ai_dec T mj pc') st' with
      | some r => k (pc + 3) L (r ++ st.drop nn) n' sl' M'
      | none => none)
    | none => none) else none
def ai_this (T : ai_T) (n : Nat) (M : ai_M) (mj na : Nat) (st : List Value) : Bool := match st.drop na with
  | .ref o :: _ => decide (o < n) && (match M o with
    | .inr (ci, _) => decide (ci = ai_own T mj)
    | _ => false)
  | _ => false
def ai_c {α : Type} (bad stop : α) (T : ai_T) (G : ai_G) (c : Nat) (i : Instr) (pc : Nat) (L : ai_L) (st : List Value) (n sl : Nat) (M : ai_M) (go : Nat → Nat → Nat → α) (k : Nat → ai_L → List Value → Nat → Nat → ai_M → α) : α :=
  match i with
  | .invokevirtual j => match ai_pool T c j with
    | some (1, mj, na, kd) => if (kd = 0 ∨ kd = 3) ∧ ai_this T n M mj na st = true then go mj na kd else bad
    | some (6, id, _, _) => (match ai_hook T id st with
      | some st' => k (pc + 3) L st' n sl M
      | none => bad)
    | _ => bad
  | .invokestatic j => match ai_pool T c j with
    | some (1, mj, na, kd) => if kd = 1 then go mj na kd else bad
    | some (9, _, _, _) => stop
    | some (5, _, _, _) => ai_cp bad G pc L st n sl M k
    | some (6, id, _, _) => (match ai_hook T id st with
      | some st' => k (pc + 3) L st' n sl M
      | none => bad)
    | _ => bad
  | .invokespecial j => match ai_pool T c j with
    | some (1, mj, na, kd) => if (kd = 2 ∨ kd = 4) ∧ ai_this T n M mj na st = true then go mj na kd else bad
    | some (4, _, _, _) => (match st with
      | .ref _ :: st => if ai_sm st ≤ 8 then k (pc + 3) L st n sl M else bad
      | _ => bad)
    | _ => bad
  | _ => bad
def ai_cls : Instr → Nat
  | .tableswitch _ _ _ _ => 1
  | .lookupswitch _ _ => 1
  | .return_ => 2
  | .ireturn => 2
  | .lreturn => 2
  | .athrow => 2
  | .ldc _ => 3
  | .ldc_w _ => 3
  | .ldc2_w _ => 3
  | .getfield _ => 3
  | .putfield _ => 3
  | .iaload => 3
  | .baload => 3
  | .laload => 3
  | .aaload => 3
  | .arraylength => 3
  | .iastore => 3
  | .bastore => 3
  | .lastore => 3
  | .aastore => 3
  | .newarray _ => 3
  | .anewarray _ => 3
  | .new _ => 3
  | .invokevirtual _ => 4
  | .invokestatic _ => 4
  | .invokespecial _ => 4
  | _ => 0
/-- fuel, calls that may stand open, method, place, locals, stack, cells, slots, memory -/
def ai_run (T : ai_T) (G : ai_G) : Nat → Nat → Nat → Nat → ai_L → List Value → Nat → Nat → ai_M → Option ai_C
  | 0, _, _, _, _, _, _, _, _ => none
  | f + 1, d, mi, pc, L, st, n, sl, M => match ai_dec T mi pc with
    | none => none
    | some (i, len) => match ai_cls i with
      | 1 => ai_sw none i pc L st (fun pc L st => ai_run T G f d mi pc L st n sl M)
      | 2 => some (pc, L, st, n, sl, M)
      | 3 => if len = ai_len i then ai_m none (some (pc, L, st, n, sl, M)) T G (ai_own T mi) (ai_ini T mi) i pc L st n sl M (fun pc L st n sl M => ai_run T G f d mi pc L st n sl M) else none
      | 4 => if len = ai_len i then (match d with
        | 0 => none
        | d' + 1 => ai_c none (some (pc, L, st, n, sl, M)) T G (ai_own T mi) i pc L st n sl M (fun mj na kd => ai_go T mj na kd pc L st n sl M (fun mj vs n sl M => ai_run T G f d' mj 0 (ai_en vs (ai_mx T mj)) [] n sl M) (fun pc L st n sl M => ai_run T G f (d' + 1) mi pc L st n sl M)) (fun pc L st n sl M => ai_run T G f (d' + 1) mi pc L st n sl M)) else none
      | _ => if len = ai_len i then ai_p none i pc L st (fun pc L st => ai_run T G f d mi pc L st n sl M) else none
end AIR
