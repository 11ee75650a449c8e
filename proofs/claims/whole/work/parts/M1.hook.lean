/-! THE LIBRARY'S OWN: its calls, looked through -/
section HKC
def isCl (x : Nat) : Bool := decide (x = 18) || (decide (x = 182) || decide (x = 184))
def hkI (mi pc : Nat) : Bool := match decode (et_cc mi) pc with
  | .ok (.ldc j, _) => (match et_pool (et_own mi) j with
    | some (6, id, _, _) => decide (id = 4) && (decide (et_own mi = 7) && decide (j = 76))
    | _ => true)
  | .ok (.invokevirtual j, _) => (match et_pool (et_own mi) j with
    | some (6, id, _, _) => decide (et_own mi = 7) && (decide (id = 2) && decide (j = 78) || decide (id = 3) && decide (j = 84))
    | _ => true)
  | .ok (.invokestatic j, _) => (match et_pool (et_own mi) j with
    | some (6, id, _, _) => decide (id = 0) || decide (id = 1)
    | _ => true)
  | _ => true
def hkL (mi : Nat) : Nat → List UInt8 → Bool
  | _, [] => true
  | pc, b :: bs => (if isCl b.toNat then hkI mi pc else true) && hkL mi (pc + 1) bs
def hkOk (mi : Nat) : Bool := hkL mi 0 (et_cc mi).data.toList
theorem hkL_at {mi : Nat} : ∀ (l : List UInt8) (pc k : Nat) (b : UInt8), hkL mi pc l = true → l[k]? = some b → isCl b.toNat = true → hkI mi (pc + k) = true := by
  intro l
  induction l with
  | nil => intro pc k b _ h; cases h
  | cons a l ih =>
    intro pc k b h hk hb
    unfold hkL at h
    rw [Bool.and_eq_true] at h
    cases k with
    | zero =>
      cases hk
      have := h.1
      rw [if_pos hb] at this
      exact this
    | succ k =>
      have := ih (pc + 1) k b h.2 (by simpa using hk) hb
      rw [show pc + 1 + k = pc + (k + 1) by omega] at this
      exact this
set_option maxRecDepth 100000 in
theorem hk_ok0 : ([0, 1, 3, 6, 10, 12, 13, 14, 15, 16, 17, 18] : List Nat).all hkOk = true := by decide +kernel
set_option maxRecDepth 100000 in
theorem hk_ok1 : ([19, 20, 21, 22, 23, 24, 25, 27, 28, 33, 35, 36] : List Nat).all hkOk = true := by decide +kernel
set_option maxRecDepth 100000 in
theorem hk_ok2 : ([37, 38, 39, 41, 42, 43, 50, 52, 53, 56, 57, 58] : List Nat).all hkOk = true := by decide +kernel
set_option maxRecDepth 100000 in
theorem hk_ok3 : ([59, 60, 61, 62, 63, 65, 66, 67, 68, 69, 70, 72] : List Nat).all hkOk = true := by decide +kernel
set_option maxRecDepth 100000 in
theorem hk_ok4 : ([73, 74, 75, 76, 77, 78, 79, 80, 81, 82, 83, 84] : List Nat).all hkOk = true := by decide +kernel
set_option maxRecDepth 100000 in
theorem hk_ok5 : ([85, 86, 87, 88, 89, 90, 91, 92, 93, 94, 96, 97] : List Nat).all hkOk = true := by decide +kernel
set_option maxRecDepth 100000 in
theorem hk_ok6 : ([98, 99, 104, 105, 110, 111, 112, 113, 114, 115, 116, 117] : List Nat).all hkOk = true := by decide +kernel
set_option maxRecDepth 100000 in
theorem hk_ok7 : ([118, 119, 120, 121, 122, 123, 124, 125, 126, 127, 128, 129] : List Nat).all hkOk = true := by decide +kernel
set_option maxRecDepth 100000 in
theorem hk_ok8 : ([130, 131, 132, 133, 134, 135, 136, 137, 138, 139, 140, 141] : List Nat).all hkOk = true := by decide +kernel
set_option maxRecDepth 100000 in
theorem hk_ok9 : ([142, 143, 148, 154, 155, 164, 170, 171, 172, 173, 174, 175] : List Nat).all hkOk = true := by decide +kernel
set_option maxRecDepth 100000 in
theorem hk_ok10 : ([176] : List Nat).all hkOk = true := by decide +kernel
def hkO : List Nat := [1, 3, 7, 9, 11]
def hkM : List Nat := [0, 1, 3, 6, 10, 12, 13, 14, 15, 16, 17, 18, 19, 20, 21, 22, 23, 24, 25, 27, 28, 33, 35, 36, 37, 38, 39, 41, 42, 43, 50, 52, 53, 56, 57, 58, 59, 60, 61, 62, 63, 65, 66, 67, 68, 69, 70, 72, 73, 74, 75, 76, 77, 78, 79, 80, 81, 82, 83, 84, 85, 86, 87, 88, 89, 90, 91, 92, 93, 94, 96, 97, 98, 99, 104, 105, 110, 111, 112, 113, 114, 115, 116, 117, 118, 119, 120, 121, 122, 123, 124, 125, 126, 127, 128, 129, 130, 131, 132, 133, 134, 135, 136, 137, 138, 139, 140, 141, 142, 143, 148, 154, 155, 164, 170, 171, 172, 173, 174, 175, 176]
theorem hk_all : ∀ mi, mi ∈ hkM → hkOk mi = true := by
  intro mi hm
  have e : hkM = [0, 1, 3, 6, 10, 12, 13, 14, 15, 16, 17, 18] ++ ([19, 20, 21, 22, 23, 24, 25, 27, 28, 33, 35, 36] ++ ([37, 38, 39, 41, 42, 43, 50, 52, 53, 56, 57, 58] ++ ([59, 60, 61, 62, 63, 65, 66, 67, 68, 69, 70, 72] ++ ([73, 74, 75, 76, 77, 78, 79, 80, 81, 82, 83, 84] ++ ([85, 86, 87, 88, 89, 90, 91, 92, 93, 94, 96, 97] ++ ([98, 99, 104, 105, 110, 111, 112, 113, 114, 115, 116, 117] ++ ([118, 119, 120, 121, 122, 123, 124, 125, 126, 127, 128, 129] ++ ([130, 131, 132, 133, 134, 135, 136, 137, 138, 139, 140, 141] ++ ([142, 143, 148, 154, 155, 164, 170, 171, 172, 173, 174, 175] ++ ([176])))))))))) := rfl
  rw [e] at hm
  simp only [List.mem_append] at hm
  rcases hm with h | h | h | h | h | h | h | h | h | h | h
  · exact List.all_eq_true.mp hk_ok0 mi h
  · exact List.all_eq_true.mp hk_ok1 mi h
  · exact List.all_eq_true.mp hk_ok2 mi h
  · exact List.all_eq_true.mp hk_ok3 mi h
  · exact List.all_eq_true.mp hk_ok4 mi h
  · exact List.all_eq_true.mp hk_ok5 mi h
  · exact List.all_eq_true.mp hk_ok6 mi h
  · exact List.all_eq_true.mp hk_ok7 mi h
  · exact List.all_eq_true.mp hk_ok8 mi h
  · exact List.all_eq_true.mp hk_ok9 mi h
  · exact List.all_eq_true.mp hk_ok10 mi h
set_option maxRecDepth 100000 in
theorem hk_own : (List.range 290).all (fun mi => decide (mi ∈ hkM) || !(decide (et_own mi ∈ hkO))) = true := by decide +kernel
theorem hk_pool : (List.range 15).all (fun c => decide (c ∈ hkO) || ((et_pL[c]?).getD []).all (fun e => decide (¬ e.2.1.1 = 6))) = true := by decide +kernel
end HKC
