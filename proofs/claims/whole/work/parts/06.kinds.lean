/-! THE TABLES ARE RIGHT: the owners of fields, and what is looked up -/
section ETK
def et_wchk (ci : Nat) : Bool := match vwCl[ci]?, et_fP[ci]?, et_nP[ci]? with
  | some (C, F, N), some ps, some (q1, q2) => decide (N = et_nf ci) && (List.range N).all (fun k => et_in ((ps[k]?).getD 0) (u_lay C F k)) && et_in q1 (.instantiable C N) && et_in q2 (.initialized C) && decide (C = et_on ci)
  | _, _, _ => false
set_option maxRecDepth 100000 in
theorem et_wok : (List.range 13).all et_wchk = true := by decide +kernel
def et_xchk : Bool := match et_xP with
  | [a, b, c, d, e, f, g, h, i] => et_in a (.instanceMethod objectInit) && et_in b (.code objectInit ⟨#[0xb1]⟩ 1 none) && et_in c (.native arraycopyName) && et_in d (.static arraycopyName) && et_in e (.initialized "java/lang/System") && et_in f (.arrayClass .int) && et_in g (.arrayClass .byte) && et_in h (.arrayClass .boolean) && et_in i (.arrayClass .long)
  | _ => false
set_option maxRecDepth 100000 in
theorem et_xok : et_xchk = true := by decide +kernel
/-- what is found in the pool was looked through -/
theorem et_pool_chk {c j : Nat} {e : Nat × Nat × Nat × Nat} (h : et_pool c j = some e) : ∃ pl, et_pchk c (j, e, pl) = true := by
  unfold et_pool at h
  cases hf : ((et_pL[c]?).getD []).find? (fun e => e.1 == j) with
  | none => rw [hf] at h; cases h
  | some q =>
    rw [hf] at h
    cases h
    have hm := List.mem_of_find?_eq_some hf
    have hj : q.1 = j := by have := List.find?_some hf; simpa using this
    have all : ∀ (ps : List (Nat × (Nat × Nat × Nat × Nat) × Nat)), ps.all (et_pchk c) = true → q ∈ ps → ∃ pl, et_pchk c (j, q.2.1, pl) = true := by
      intro ps hp hq
      exact ⟨q.2.2, by rw [← hj]; exact List.all_eq_true.mp hp q hq⟩
    match c, hm with
    | 0, hm => exact all _ et_pok0 hm
    | 1, hm => exact all _ et_pok1 hm
    | 2, hm => exact all _ et_pok2 hm
    | 3, hm => exact all _ et_pok3 hm
    | 4, hm => exact all _ et_pok4 hm
    | 5, hm => exact all _ et_pok5 hm
    | 6, hm => exact all _ et_pok6 hm
    | 7, hm => exact all _ et_pok7 hm
    | 8, hm => exact all _ et_pok8 hm
    | 9, hm => exact all _ et_pok9 hm
    | 10, hm => exact all _ et_pok10 hm
    | 11, hm => exact all _ et_pok11 hm
    | 12, hm => exact all _ et_pok12 hm
    | 13, hm => exact all _ et_pok13 hm
    | 14, hm => exact all _ et_pok14 hm
    | c + 15, hm => simp [et_pL] at hm
theorem et_mok (i : Nat) (h : i < 289) : et_mchk i = true := by
  by_cases h0 : i < 97
  · exact List.all_eq_true.mp et_mok0 i (List.mem_range.mpr h0)
  · by_cases h1 : i < 194
    · have := List.all_eq_true.mp et_mok1 (i - 97) (List.mem_range.mpr (by omega))
      simpa [Nat.add_sub_cancel' (show 97 ≤ i by omega)] using this
    · have := List.all_eq_true.mp et_mok2 (i - 194) (List.mem_range.mpr (by omega))
      simpa [Nat.add_sub_cancel' (show 194 ≤ i by omega)] using this
set_option maxRecDepth 100000 in
theorem et_clt : ∀ (ci : Nat) (C : String) (F : u_T) (N : Nat), vwCl[ci]? = some (C, F, N) → (∀ k, k < N → parseFieldDescriptor (F k).2.2.1 = some (et_fty ci k)) ∧ (∀ a, a < N → ∀ b, b < N → a ≠ b → (F a).2.1 ≠ (F b).2.1)
  | 0, _, _, _, h => by injection h with h; injection h with h1 h2; injection h2 with h2 h3; subst h1; subst h2; subst h3; exact ⟨tyX0_ok, nmX0⟩
  | 1, _, _, _, h => by injection h with h; injection h with h1 h2; injection h2 with h2 h3; subst h1; subst h2; subst h3; exact ⟨tyX1_ok, nmX1⟩
  | 2, _, _, _, h => by injection h with h; injection h with h1 h2; injection h2 with h2 h3; subst h1; subst h2; subst h3; exact ⟨tyX2_ok, nmX2⟩
  | 3, _, _, _, h => by injection h with h; injection h with h1 h2; injection h2 with h2 h3; subst h1; subst h2; subst h3; exact ⟨tyX3_ok, nmX3⟩
  | 4, _, _, _, h => by injection h with h; injection h with h1 h2; injection h2 with h2 h3; subst h1; subst h2; subst h3; exact ⟨tyX4_ok, nmX4⟩
  | 5, _, _, _, h => by injection h with h; injection h with h1 h2; injection h2 with h2 h3; subst h1; subst h2; subst h3; exact ⟨tyX5_ok, nmX5⟩
  | 6, _, _, _, h => by injection h with h; injection h with h1 h2; injection h2 with h2 h3; subst h1; subst h2; subst h3; exact ⟨tyX6_ok, nmX6⟩
  | 7, _, _, _, h => by injection h with h; injection h with h1 h2; injection h2 with h2 h3; subst h1; subst h2; subst h3; exact ⟨tyX7_ok, nmX7⟩
  | 8, _, _, _, h => by injection h with h; injection h with h1 h2; injection h2 with h2 h3; subst h1; subst h2; subst h3; exact ⟨tyX8_ok, nmX8⟩
  | 9, _, _, _, h => by injection h with h; injection h with h1 h2; injection h2 with h2 h3; subst h1; subst h2; subst h3; exact ⟨tyX9_ok, nmX9⟩
  | 10, _, _, _, h => by injection h with h; injection h with h1 h2; injection h2 with h2 h3; subst h1; subst h2; subst h3; exact ⟨tyX10_ok, nmX10⟩
  | 11, _, _, _, h => by injection h with h; injection h with h1 h2; injection h2 with h2 h3; subst h1; subst h2; subst h3; exact ⟨tyX11_ok, nmX11⟩
  | 12, _, _, _, h => by injection h with h; injection h with h1 h2; injection h2 with h2 h3; subst h1; subst h2; subst h3; exact ⟨tyX12_ok, nmX12⟩
  | _ + 13, _, _, _, h => by simp at h
/-- an owner of fields: all that is known of it -/
theorem et_cls {ci : Nat} {C : String} {F : u_T} {N : Nat} (h : vwCl[ci]? = some (C, F, N)) : N = et_nf ci ∧ C = et_on ci ∧ (∀ w ∈ u_ws C F N, w ∈ et_tb) ∧ Cond.instantiable C N ∈ et_tb ∧ Cond.initialized C ∈ et_tb ∧ (∀ k, k < N → parseFieldDescriptor (F k).2.2.1 = some (et_fty ci k)) ∧ (∀ a, a < N → ∀ b, b < N → a ≠ b → (F a).2.1 ≠ (F b).2.1) := by
  have hl : ci < 13 := (List.getElem?_eq_some_iff.mp h).1
  have hw := List.all_eq_true.mp et_wok ci (List.mem_range.mpr hl)
  have ht : (∀ k, k < N → parseFieldDescriptor (F k).2.2.1 = some (et_fty ci k)) ∧ (∀ a, a < N → ∀ b, b < N → a ≠ b → (F a).2.1 ≠ (F b).2.1) := et_clt ci C F N h
  unfold et_wchk at hw
  rw [h] at hw
  split at hw
  · rename_i C' F' N' ps q1 q2 e1 e2 e3
    cases e1
    simp only [Bool.and_eq_true, decide_eq_true_eq] at hw
    obtain ⟨⟨⟨⟨w1, w2⟩, w3⟩, w4⟩, w5⟩ := hw
    refine ⟨w1, w5, ?_, et_in_mem w3, et_in_mem w4, ht.1, ht.2⟩
    intro w hw
    obtain ⟨k, hk, rfl⟩ := List.mem_map.mp hw
    exact et_in_mem (List.all_eq_true.mp w2 k hk)
  · cases hw
end ETK
