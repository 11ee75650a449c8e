/-! THE START: what the constructors leave -/
section LWE
def eqV : Value → Value → Bool
  | .int x, .int y => decide (x = y)
  | .long x, .long y => decide (x = y)
  | .ref a, .ref b => decide (a = b)
  | _, _ => false
def eqVs : List Value → List Value → Bool
  | [], [] => true
  | a :: l, b :: m => eqV a b && eqVs l m
  | _, _ => false
def eqL : ai_L → ai_L → Bool
  | [], [] => true
  | none :: l, none :: m => eqL l m
  | some a :: l, some b :: m => eqV a b && eqL l m
  | _, _ => false
def eqA : vp_A → vp_A → Bool
  | (N, .inl f), (N', .inl g) => decide (N = N') && (List.range N).all (fun j => decide (f j = g j))
  | (N, .inr (.inl f)), (N', .inr (.inl g)) => decide (N = N') && (List.range N).all (fun j => decide (f j = g j))
  | (N, .inr (.inr (.inr (.inr f)))), (N', .inr (.inr (.inr (.inr g)))) => decide (N = N') && (List.range N).all (fun j => decide (f j = g j))
  | _, _ => false
def eqE : va_E → va_E → Bool
  | .inl (c, a), .inl (c', a') => decide (c = c') && eqA a a'
  | .inr (c, fs), .inr (c', fs') => decide (c = c') && eqVs fs fs'
  | _, _ => false
def X00 : mX := fun k j => if k = 0 then (if j = 17 then -1 else 0) else if k = 2 then (if j = 8 then -1 else 0) else if k = 35 then (if j = 2 ∨ j = 3 then -1 else 0) else if k = 38 then (if j = 3 then -1 else 0) else if k = 6 ∨ k = 47 ∨ k = 154 ∨ k = 177 then (if j = 12 then 10 else 0) else if k = 199 then (if j = 34 ∨ j = 38 ∨ j = 44 then -1 else 0) else if k = 201 then (if j = 3 then 10 else 0) else 0
def Y00 : mY := fun k j => if k = 205 then kl j else 0
def pre0 (L : Nat) (xs : Nat → Int32) : Option ai_C := ai_it ET (true, L, xs) 4000 61 289 13 (0, [some (.ref 1000000), none, none, none, none, none, none, none], [], 0, 0, fun _ => .inr (99, []))
def preOk : Option ai_C → Bool
  | some (pc, Lo, st, n, sl, M) => decide (pc = 23) && (eqL Lo [some (.ref 1000000), some (.ref 0), some (.ref 199), some (.ref 230), some (.int 0), none, none, none] && (decide (st.length = 0) && (decide (n = 231) && (decide (sl = 8132) && (List.range 231).all (fun k => eqE (M k) (mem X00 Y00 k))))))
  | none => false
set_option maxRecDepth 100000 in
set_option maxHeartbeats 100000000 in
theorem pre_ok (L : Nat) (xs : Nat → Int32) : preOk (pre0 L xs) = true := rfl
end LWE
