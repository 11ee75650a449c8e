/-! THROWN: what every state keeps of it -/
section NSE
variable {base : Nat}
def nsX : String := "java/util/NoSuchElementException"
def nsY : String := "java/lang/RuntimeException"
def nsAt : List Cond := vy_at "EarTown" 150 nsX nsY 13 prog_29_method_4_code ["java/lang/Exception"]
def nsB : List Cond := [.declares (Bundle.initS nsY), .declares (Bundle.initS "java/lang/Exception"), .declares (Bundle.initS Bundle.tN), .castable nsX nsX]
def nsPl : List Nat := [122, 1351, 1360, 1362, 1365, 1367, 1352, 1353, 133, 134, 1354, 1359, 1363, 1383, 1341, 1384, 1343, 1385, 1345, 1355, 1357, 1347, 1379, 1380, 1382, 1347, 1370, 1371, 1372, 1373, 1333, 1373, 1374, 1375, 1376, 1335, 1376, 1377, 1378, 1379, 1337, 1369, 1330, 1331, 1338, 1339, 1340, 1342, 1344, 1346, 1350, 1349, 1348]
theorem ns_len : nsAt.length = nsPl.length := by decide +kernel
theorem ns_chk : (List.zip nsAt nsPl).all (fun e => decide (e.1 ∈ nsB) || et_in e.2 e.1) = true := by decide +kernel
theorem ns_ot : (Cond.classLink "EarTown" 146 nsX :: Cond.initialized nsX :: nsAt).all vx_ot = true := by decide +kernel
theorem ns_zip : ∀ (A : List Cond) (B : List Nat), A.length = B.length → ∀ w ∈ A, ∃ k, (w, k) ∈ List.zip A B := by
  intro A
  induction A with
  | nil => intro B _ w hw; cases hw
  | cons a A ih =>
    intro B h w hw
    match B, h with
    | b :: B, h =>
      rcases List.mem_cons.mp hw with rfl | hw
      · exact ⟨b, List.mem_cons_self⟩
      · obtain ⟨k, hk⟩ := ih B (by simpa using h) w hw
        exact ⟨k, List.mem_cons_of_mem _ hk⟩
theorem ns_mem : ∀ w ∈ nsAt, w ∈ nsB ∨ w ∈ et_tb := by
  intro w hw
  obtain ⟨k, hk⟩ := ns_zip nsAt nsPl ns_len w hw
  have h := List.all_eq_true.mp ns_chk _ hk
  rw [Bool.or_eq_true, decide_eq_true_eq] at h
  rcases h with h | h
  · exact Or.inl h
  · exact Or.inr (et_in_mem h)
theorem ns_c0 : Cond.classLink "EarTown" 146 nsX ∈ et_tb := et_in_mem (pl := 1329) (by decide +kernel)
theorem ns_c1 : Cond.initialized nsX ∈ et_tb := et_in_mem (pl := 125) (by decide +kernel)
theorem ns_c2 : Cond.classLink "EarTownLaw" 13 nsX ∈ et_tb := et_in_mem (pl := 1324) (by decide +kernel)
def nsT : List (Nat × String) := [(148, "no such PERSON"), (190, "no such what of a PERSON"), (203, "no such STORY"), (217, "no such what of a STORY"), (322, "no such GRIEFS")]
/-- what a throw asks of a state -/
def nsE (base : Nat) (U : State) : Prop := vx_Zq Bundle.tN "UNASSIGNED_STACK" Bundle.steD (fun q => base ≤ q) U U.heap ∧ vx_Zq Bundle.tN "SUPPRESSED_SENTINEL" Bundle.listD (fun q => base ≤ q) U U.heap ∧ (∀ e ∈ nsT, ∃ a, vk_R "EarTown" e.1 e.2 a U) ∧ ∀ w ∈ nsB, w.before #[] U = true
theorem nsB_tab : ∀ w ∈ nsB, w.onTables = true := by decide +kernel
theorem nsE.warm : ∀ s U : State, s.WarmedH U.vm → (∀ q : Nat, q < base → U.heap[q]? = s.heap[q]?) → nsE base s → nsE base U := by
  intro s U hW hk h
  obtain ⟨h1, h2, h3, h4⟩ := h
  have hk' : ∀ a : Nat, a < s.heap.size → ¬ base ≤ a → U.heap[a]? = s.heap[a]? := fun a _ ha => hk a (by omega)
  refine ⟨(vx_Zq.moved hW.alike h1).kept hk', (vx_Zq.moved hW.alike h2).kept hk', fun e he => ?_, fun w hw => ?_⟩
  · obtain ⟨a, ha⟩ := h3 e he
    exact ⟨a, vk_R.warm hW ha⟩
  · have hb := h4 w hw
    have hw2 : w.warmOk s := by
      simp only [nsB, List.mem_cons, List.not_mem_nil, or_false] at hw
      rcases hw with rfl | rfl | rfl | rfl <;> exact trivial
    exact va_tabs (u := s.setVm U.vm) (U := U) (nsB_tab w hw) rfl (Cond.before_warmed hW w hw2 hb)
theorem nsE.same : ∀ U V : State, V.vm = U.vm → V.heap = U.heap → nsE base U → nsE base V := fun U V hv hh h => nsE.warm U V (by rw [hv]; exact State.WarmedH.refl U) (fun q _ => by rw [hh]) h
end NSE
