/-! THE PROGRAM for the interpreter -/
/-- the library's own: Math.max, Math.min, the length and a sign of the text of words, that text itself -/
def et_hook (id : Nat) (st : List Value) : Option (List Value) := match id, st with
  | 0, .int y :: .int x :: st => if ai_sm st ≤ 8 then some (.int (if x < y then y else x) :: st) else none
  | 1, .int y :: .int x :: st => if ai_sm st ≤ 8 then some (.int (if y < x then y else x) :: st) else none
  | 2, .ref 1000001 :: st => if ai_sm st ≤ 8 then some (.int 113 :: st) else none
  | 3, .int x :: .ref 1000001 :: st => if ai_sm st ≤ 8 ∧ ai_ib x 113 = true then some (.int (et_keys.getD x.toNatClampNeg 0) :: st) else none
  | 4, st => some (.ref 1000001 :: st)
  | _, _ => none
def et_dec (i pc : Nat) : Option (Instr × Nat) := match decode (et_cc i) pc with
  | .ok x => some x
  | .error _ => none
def ET : ai_T := (et_dec, et_own, et_mx, et_rt, et_pool, et_fty, et_nf, et_kob, et_hook, et_ini)
