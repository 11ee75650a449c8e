/-! THE START: what holds of it -/
section STA
variable {s : State} {b L : Nat} {xs : Nat → Int32} {args : Array Value}
def lw_in (pl : Nat) (w : Cond) : Bool := decide (lw_tbl[pl]? = some w)
theorem lw_in_mem {pl : Nat} {w : Cond} (h : lw_in pl w = true) : w ∈ lw_tbl := List.mem_of_getElem? (of_decide_eq_true h)
theorem tb_sub : ∀ w ∈ et_tb, w ∈ lw_tbl := fun w h => (List.mem_filter.mp h).1
/-- the classes, by their numbers -/
theorem st_cls (hts : ∀ w ∈ et_tb, w.before args s = true) : ∀ c : Nat, ∃ D : ClassId × (Nat → Nat), ∀ q : vw_C, vwCl[c]? = some q → u_Kn s q.1 q.2.1 q.2.2 D.1 D.2 := by
  have okN := (lOK (l := launch0) (base := 0) (b := 0) (w := 0) (v := 0) (aC := fun _ => 0) (D := (fun _ => 0, fun _ _ => 0)) (G := lG 0 (fun _ => 0)) (L := 0) (xs := fun _ => 0) rfl).1.2.1
  have h1 : ∀ c k j a e, ai_pool ET k j = some (2, c, a, e) → ∃ D : ClassId × (Nat → Nat), ∀ q : vw_C, vwCl[c]? = some q → u_Kn s q.1 q.2.1 q.2.2 D.1 D.2 := by
    intro c k j a e hp
    obtain ⟨C, F, z1, z2, z3, z4, z5, z6⟩ := okN k j c a e hp
    obtain ⟨cC, iS, hk⟩ := u_known hts z2 (hts _ z5)
    refine ⟨(cC, iS), fun q hq => ?_⟩
    cases z1.symm.trans hq
    exact hk
  intro c
  by_cases hc : c < 13
  · match c, hc with
    | 0, _ => exact h1 0 11 47 99 0 (by decide +kernel)
    | 1, _ => exact h1 1 11 29 99 0 (by decide +kernel)
    | 2, _ => exact h1 2 11 54 99 0 (by decide +kernel)
    | 3, _ => exact h1 3 5 9 5 0 (by decide +kernel)
    | 4, _ => exact h1 4 11 61 99 0 (by decide +kernel)
    | 5, _ => exact h1 5 11 102 99 0 (by decide +kernel)
    | 6, _ => exact h1 6 11 27 4 0 (by decide +kernel)
    | 7, _ => exact h1 7 11 13 99 0 (by decide +kernel)
    | 8, _ => exact h1 8 6 7 99 0 (by decide +kernel)
    | 9, _ => exact h1 9 11 68 99 0 (by decide +kernel)
    | 10, _ => exact h1 10 11 20 99 0 (by decide +kernel)
    | 11, _ => exact h1 11 13 8 99 0 (by decide +kernel)
    | 12, _ => exact h1 12 13 23 99 0 (by decide +kernel)
    | c + 13, h => exact absurd h (by omega)
  · refine ⟨(0, fun _ => 0), fun q hq => ?_⟩
    exfalso
    have : c < vwCl.length := (List.getElem?_eq_some_iff.mp hq).1
    exact hc this
theorem st_arr {ty : FieldType} (hp : ty = .int ∨ ty = .byte ∨ ty = .boolean ∨ ty = .long) (h : (Cond.arrayClass ty).before args s = true) : ∃ cA, ArrOfT s cA ty ∧ va_RA s cA ty := by
  obtain ⟨cA, kA, comp, h1, h2, h3⟩ := Cond.arrayClass_spec (args := args) (first := s) (o := none) (s := s) (idx := []) h
  refine ⟨cA, fun n z => ⟨fun k hk9 => ?_, kA, h2, comp, h3⟩, ?_⟩
  · rcases hp with rfl | rfl | rfl | rfl <;> cases hk9
  · rcases hp with rfl | rfl | rfl | rfl <;> exact h1
theorem st_obj {C : String} (h : (Cond.arrayOver (.object C)).before args s = true) : ∃ cA, ArrOfT s cA (.object C) ∧ va_RA s cA (.object C) := by
  obtain ⟨comp, cA, kA, h1, h2, h3, h4, h5⟩ := Cond.arrayOver_spec (args := args) (first := s) (o := none) (s := s) (idx := []) h
  exact ⟨cA, fun n z => ⟨(fun k h => by cases h), kA, h3, comp, h4⟩, kA, comp, h3, h4, h1, h5⟩
/-- the classes and the rows' classes -/
theorem st_K (hts : ∀ w ∈ et_tb, w.before args s = true) (htl : ∀ w ∈ lw_tbl, w.before args s = true) : ∃ (D : va_G) (aC : Nat → ClassId), va_K D vwCl (et_tys aC) s := by
  obtain ⟨D, hD⟩ := Classical.axiomOfChoice (st_cls hts)
  obtain ⟨-, -, ⟨a0, a1, a2, a3⟩⟩ := et_xw
  obtain ⟨c0, h0⟩ := st_arr (Or.inl rfl) (hts _ a0)
  obtain ⟨c1, h1⟩ := st_arr (Or.inr (Or.inl rfl)) (hts _ a1)
  obtain ⟨c2, h2⟩ := st_arr (Or.inr (Or.inr (Or.inl rfl))) (hts _ a2)
  obtain ⟨c3, h3⟩ := st_arr (Or.inr (Or.inr (Or.inr rfl))) (hts _ a3)
  obtain ⟨c4, h4⟩ := st_obj (htl _ (lw_in_mem (pl := 395) (w := Cond.arrayOver (.object "EarTown$Place")) (by decide +kernel)))
  obtain ⟨c5, h5⟩ := st_obj (htl _ (lw_in_mem (pl := 514) (w := Cond.arrayOver (.object "EarTown$Life")) (by decide +kernel)))
  refine ⟨(fun c => (D c).1, fun c => (D c).2), fun k => if k = 0 then c0 else if k = 1 then c1 else if k = 2 then c2 else if k = 3 then c3 else if k = 4 then c4 else c5, fun c q hq => hD c q hq, fun k q hk => ?_⟩
  match k, hk with
  | 0, hk => cases hk; exact h0
  | 1, hk => cases hk; exact h1
  | 2, hk => cases hk; exact h2
  | 3, hk => cases hk; exact h3
  | 4, hk => cases hk; exact h4
  | 5, hk => cases hk; exact h5
  | k + 6, hk => cases hk
def stT : Term := .string "EarTown$Reader" 76
theorem st_keys : (List.range 113).all (fun j => decide (Cond.eq (.elem (.field stT "java/lang/String" "value" "[B") (.int (Int32.ofNat j))) (.int (et_keys.getD j 0)) ∈ flatC (Cond.and given_1 narrow_1))) = true := by decide +kernel
def stO : List (Nat × String × Nat) := [(148, "no such PERSON", 1368), (190, "no such what of a PERSON", 1394), (203, "no such STORY", 1402), (217, "no such what of a STORY", 1404), (322, "no such GRIEFS", 1412)]
theorem stO_ok : stO.all (fun e => lw_in e.2.2 (.stringRef "EarTown" e.1 e.2.1)) = true := by decide +kernel
theorem nsB_in : ∀ w ∈ nsB, w ∈ lw_tbl := by
  intro w hw
  simp only [nsB, List.mem_cons, List.not_mem_nil, or_false] at hw
  rcases hw with rfl | rfl | rfl | rfl
  · exact lw_in_mem (pl := 1333) (by decide +kernel)
  · exact lw_in_mem (pl := 1335) (by decide +kernel)
  · exact lw_in_mem (pl := 1337) (by decide +kernel)
  · exact lw_in_mem (pl := 1331) (by decide +kernel)
/-- what a throw asks for, the text of words -/
theorem st_Sx (hcT : ∃ cT, s.vm.findClass "EarTown" = some cT) (htl : ∀ w ∈ lw_tbl, w.before args s = true) (hg : (Cond.and given_1 narrow_1).before args s = true) : ∃ w v, et_Sx s.heap.size w v (nsE s.heap.size) s := by
  have hs := flat_of_before _ hg
  have hA : ∀ a : Nat, a < s.heap.size → ¬ (fun q => s.heap.size ≤ q) a := fun a h => Nat.not_le.mpr h
  obtain ⟨adK, adV, hS, hev⟩ := vk_Sof (args := args) (s := s) (N := 1) (tm := fun _ => stT) (len := [113]) (byt := [et_keys]) (A := fun q => s.heap.size ≤ q)
    (fun i hi => by
      have : i = 0 := by omega
      subst this
      decide) (fun i _ => hs _ (by decide +kernel)) (fun i _ => hs _ (by decide +kernel)) (fun i _ => hs _ (by decide +kernel))
    (fun i hi => by
      have : i = 0 := by omega
      subst this
      exact hs _ (by decide +kernel))
    (fun i hi j hj => by
      have : i = 0 := by omega
      subst this
      exact hs _ (of_decide_eq_true (List.all_eq_true.mp st_keys j (List.mem_range.mpr hj))))
    (fun i j hi hj h => absurd (show i = j by omega) h) hA
  obtain ⟨k1, k2, k3, k4⟩ := hS.1 0 (by decide)
  refine ⟨adK 0, adV 0, vk_R.of (htl _ (lw_in_mem (pl := 634) (by decide +kernel))) (hev 0 (by decide)), ⟨k1, k2, k3, k4, ?_, ?_⟩, ?_, ?_, ?_, ?_⟩
  · exact va_Zof (htl _ (lw_in_mem (pl := 644) (by decide +kernel))) (htl _ (tb_sub _ jw15)) (va_eqt (hs _ (by decide +kernel))) hA
  · exact va_Zqof (htl _ (lw_in_mem (pl := 660) (by decide +kernel))) (htl _ (tb_sub _ jw17)) (hs _ (by decide +kernel)) hA
  · exact vx_Zqof (htl _ (lw_in_mem (pl := 1356) (by decide +kernel))) (htl _ (lw_in_mem (pl := 122) (by decide +kernel))) (hs _ (by decide +kernel)) hA
  · exact vx_Zqof (htl _ (lw_in_mem (pl := 1358) (by decide +kernel))) (htl _ (lw_in_mem (pl := 122) (by decide +kernel))) (hs _ (by decide +kernel)) hA
  · intro e he
    obtain ⟨pl, hpl⟩ : ∃ pl, (e.1, e.2, pl) ∈ stO := by
      simp only [nsT, List.mem_cons, List.not_mem_nil, or_false] at he
      rcases he with rfl | rfl | rfl | rfl | rfl
      · exact ⟨1368, by decide⟩
      · exact ⟨1394, by decide⟩
      · exact ⟨1402, by decide⟩
      · exact ⟨1404, by decide⟩
      · exact ⟨1412, by decide⟩
    have h1 := htl _ (lw_in_mem (List.all_eq_true.mp stO_ok _ hpl))
    obtain ⟨cT, hcT⟩ := hcT
    obtain ⟨-, -, -, a, -, -, -, -, -, hv⟩ := Cond.stringRef_spec (args := args) (first := s) (o := none) (s := s) (idx := []) hcT h1
    exact ⟨a, vk_R.of h1 hv⟩
  · intro w hw
    exact va_tabs (u := s) (U := s) (nsB_tab w hw) rfl (htl _ (nsB_in w hw))
theorem st_nest (htl : ∀ w ∈ lw_tbl, w.before args s = true) : ∀ c j mj na kd, et_pool c j = some (1, mj, na, kd) → kd = 3 ∨ kd = 4 → va_Nw (.methodLinkNest (et_on c) j (et_y mj) "EarTown") s := by
  intro c j mj na kd hp hk
  obtain ⟨pl, h⟩ := et_pool_chk hp
  unfold et_pchk at h
  dsimp only at h
  simp only [Bool.and_eq_true] at h
  have h1 := h.1.1.1.2
  rw [if_neg (by omega)] at h1
  exact va_Nw.of rfl (htl _ (lw_in_mem h1))
end STA
