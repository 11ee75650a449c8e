/-! THE TABLES ARE RIGHT: looked through by the kernel -/
section ETC
def et_tb : List Cond := lw_tbl.filter goodWord
def et_in (pl : Nat) (w : Cond) : Bool := decide (lw_tbl[pl]? = some w) && goodWord w
theorem et_in_mem {pl : Nat} {w : Cond} (h : et_in pl w = true) : w ∈ et_tb := by
  simp only [et_in, Bool.and_eq_true, decide_eq_true_eq] at h
  exact List.mem_filter.mpr ⟨List.mem_of_getElem? h.1, h.2⟩
def et_pchk (c : Nat) (e : Nat × (Nat × Nat × Nat × Nat) × Nat) : Bool := match e.2.1 with
  | (0, ci, kf, fin) => (match vwCl[ci]? with
    | some (_, F, N) => decide (N = et_nf ci) && decide (kf < N) && et_in e.2.2 (.fieldLink (et_on c) e.1 (F kf).1 (F kf).2.1 (F kf).2.2.1) && decide (fin = if (F kf).2.2.2 then (if (F kf).1 = et_on c then 1 else 2) else 0)
    | none => false)
  | (1, mj, na, kd) => decide (na = et_na mj) && decide (mj < 289) && (if kd < 3 then et_in e.2.2 (.methodLink (et_on c) e.1 (et_y mj)) else decide (lw_tbl[e.2.2]? = some (.methodLinkNest (et_on c) e.1 (et_y mj) "EarTown"))) && decide (kd = 1 ↔ (et_mP[mj]?).any (fun q => lw_tbl[q.2.2.1]? == some (.static (et_y mj)))) && decide ((kd = 2 ∨ kd = 4) ↔ et_ini mj = true) && decide (kd < 5)
  | (2, ci, _, _) => (match vwCl[ci]? with
    | some (C, _, N) => decide (N = et_nf ci) && et_in e.2.2 (.classLink (et_on c) e.1 C)
    | none => false)
  | (4, _, _, _) => et_in e.2.2 (.methodLink (et_on c) e.1 objectInit)
  | (5, _, _, _) => et_in e.2.2 (.methodLink (et_on c) e.1 arraycopyName)
  | (6, _, _, _) => true
  | (7, v, _, _) => et_in e.2.2 (.constant (et_on c) e.1 (Int32.ofNat v))
  | (8, v, _, _) => et_in e.2.2 (.constantLong (et_on c) e.1 (Int64.ofNat v))
  | (9, _, _, _) => true
  | _ => false
set_option maxRecDepth 100000 in
theorem et_pok0 : et_p0.all (et_pchk 0) = true := by decide +kernel
set_option maxRecDepth 100000 in
theorem et_pok1 : et_p1.all (et_pchk 1) = true := by decide +kernel
set_option maxRecDepth 100000 in
theorem et_pok2 : et_p2.all (et_pchk 2) = true := by decide +kernel
set_option maxRecDepth 100000 in
theorem et_pok3 : et_p3.all (et_pchk 3) = true := by decide +kernel
set_option maxRecDepth 100000 in
theorem et_pok4 : et_p4.all (et_pchk 4) = true := by decide +kernel
set_option maxRecDepth 100000 in
theorem et_pok5 : et_p5.all (et_pchk 5) = true := by decide +kernel
set_option maxRecDepth 100000 in
theorem et_pok6 : et_p6.all (et_pchk 6) = true := by decide +kernel
set_option maxRecDepth 100000 in
theorem et_pok7 : et_p7.all (et_pchk 7) = true := by decide +kernel
set_option maxRecDepth 100000 in
theorem et_pok8 : et_p8.all (et_pchk 8) = true := by decide +kernel
set_option maxRecDepth 100000 in
theorem et_pok9 : et_p9.all (et_pchk 9) = true := by decide +kernel
set_option maxRecDepth 100000 in
theorem et_pok10 : et_p10.all (et_pchk 10) = true := by decide +kernel
set_option maxRecDepth 100000 in
theorem et_pok11 : et_p11.all (et_pchk 11) = true := by decide +kernel
set_option maxRecDepth 100000 in
theorem et_pok12 : et_p12.all (et_pchk 12) = true := by decide +kernel
set_option maxRecDepth 100000 in
theorem et_pok13 : et_p13.all (et_pchk 13) = true := by decide +kernel
set_option maxRecDepth 100000 in
theorem et_pok14 : et_p14.all (et_pchk 14) = true := by decide +kernel
/-- a method's own words -/
def et_mchk (i : Nat) : Bool := match et_mP[i]? with
  | none => false
  | some (p1, p2, p3, p4) => decide ((et_y i).cls = et_on (et_own i)) && plainName (et_y i).cls && decide ((et_y i).cls ≠ "java/lang/invoke/MethodHandle" ∧ (et_y i).cls ≠ "java/lang/invoke/VarHandle") && decide ((parseMethodDescriptor (et_y i).desc).map (fun d => d.parameters.length) = some (et_na i)) && et_in p2 (.initialized (et_y i).cls) && decide (et_ini i = true → (et_y i).name = "<init>" ∧ et_rt i = none) && decide (et_mx i ≤ 41) && (if lw_tbl[p3]? == some (.static (et_y i)) then et_in p3 (.static (et_y i)) else (et_in p3 (.instanceMethod (et_y i)) && (et_ini i || (et_in p4 (.selects (et_on (et_own i)) (et_y i) (et_y i)) && decide ((vwCl[et_own i]?).map (fun q => q.1) = some (et_on (et_own i)))))))
set_option maxRecDepth 100000 in
theorem et_mok0 : (List.range 97).all et_mchk = true := by decide +kernel
set_option maxRecDepth 100000 in
theorem et_mok1 : (List.range 97).all (fun i => et_mchk (97 + i)) = true := by decide +kernel
set_option maxRecDepth 100000 in
theorem et_mok2 : (List.range 95).all (fun i => et_mchk (194 + i)) = true := by decide +kernel
end ETC
