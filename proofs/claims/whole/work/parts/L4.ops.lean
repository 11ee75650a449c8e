/-! THE LAW'S BODY: a row a call -/
section LWC
variable {L n sl i : Nat} {xs : Nat → Int32} {X : mX} {Y : mY} {w : ai_L} {Z : ai_C → Prop}
theorem op_feed (hL : L ≤ 3072) (hb : i + 6 ≤ L) (hn : n ≤ 512) (h : WW n X Y) (hz : ∀ X' Y', WW (n + 1) X' Y' → awi ET (lG L xs) 61 289 (1577, lL i w, [], 231, sl, mem X' Y') Z) : awi ET (lG L xs) 61 289 (220, lL i w, [], 231, sl, mem X Y) Z := by
  refine op_run (q := 220) (a := 5) (jT := 26) (jR := 30) (mT := 12) (mR := 178) (LT := [some (.ref 0), some (.int (xs (i + 1))), some (.int (xs (i + 2))), some (.int (xs (i + 3))), some (.int (xs (i + 4))), some (.int (xs (i + 5)))]) (LR := [some (.ref 199), some (.int (xs (i + 1))), some (.int (xs (i + 2))), some (.int (xs (i + 3))), some (.int (xs (i + 4))), some (.int (xs (i + 5)))]) hL (by omega) (by omega) (by decide +kernel) pl13_26 pl13_30 (fun X Y => ?_) (fun X Y v => ?_) ?_ (fun v => ?_) rfl (fun v => rfl) ?_ (fun v => ?_) (s_feed rfl h) hz
  · show (decide (0 < 231) && decide (11 = ai_own ET 12)) = true
    rw [ow12]
    rfl
  · show (decide (199 < 231) && decide (12 = ai_own ET 178)) = true
    rw [ow178]
    rfl
  · rw [mx12]
    exact ⟨Nat.le_of_ble_eq_true rfl, Nat.le_of_ble_eq_true rfl, Nat.le_of_ble_eq_true rfl, Nat.le_of_ble_eq_true rfl⟩
  · rw [mx178]
    exact ⟨Nat.le_of_ble_eq_true rfl, Nat.le_of_ble_eq_true rfl, Nat.le_of_ble_eq_true rfl, Nat.le_of_ble_eq_true rfl⟩
  · rw [mx12]
    rfl
  · rw [mx178]
    rfl
theorem op_end (hL : L ≤ 3072) (hb : i + 6 ≤ L) (hn : n ≤ 512) (h : WW n X Y) (hz : ∀ X' Y', WW (n + 1) X' Y' → awi ET (lG L xs) 61 289 (1577, lL i w, [], 231, sl, mem X' Y') Z) : awi ET (lG L xs) 61 289 (293, lL i w, [], 231, sl, mem X Y) Z := by
  refine op_run (q := 293) (a := 1) (jT := 31) (jR := 35) (mT := 14) (mR := 180) (LT := [some (.ref 0), some (.int (xs (i + 1)))]) (LR := [some (.ref 199), some (.int (xs (i + 1)))]) hL (by omega) (by omega) (by decide +kernel) pl13_31 pl13_35 (fun X Y => ?_) (fun X Y v => ?_) ?_ (fun v => ?_) rfl (fun v => rfl) ?_ (fun v => ?_) (s_end h) hz
  · show (decide (0 < 231) && decide (11 = ai_own ET 14)) = true
    rw [ow14]
    rfl
  · show (decide (199 < 231) && decide (12 = ai_own ET 180)) = true
    rw [ow180]
    rfl
  · rw [mx14]
    exact ⟨Nat.le_of_ble_eq_true rfl, Nat.le_of_ble_eq_true rfl, Nat.le_of_ble_eq_true rfl, Nat.le_of_ble_eq_true rfl⟩
  · rw [mx180]
    exact ⟨Nat.le_of_ble_eq_true rfl, Nat.le_of_ble_eq_true rfl, Nat.le_of_ble_eq_true rfl, Nat.le_of_ble_eq_true rfl⟩
  · rw [mx14]
    rfl
  · rw [mx180]
    rfl
theorem op_town (hL : L ≤ 3072) (hb : i + 6 ≤ L) (hn : n ≤ 512) (h : WW n X Y) (hz : ∀ X' Y', WW (n + 1) X' Y' → awi ET (lG L xs) 61 289 (1577, lL i w, [], 231, sl, mem X' Y') Z) : awi ET (lG L xs) 61 289 (318, lL i w, [], 231, sl, mem X Y) Z := by
  refine op_run (q := 318) (a := 0) (jT := 36) (jR := 40) (mT := 15) (mR := 182) (LT := [some (.ref 0), none]) (LR := [some (.ref 199), none]) hL (by omega) (by omega) (by decide +kernel) pl13_36 pl13_40 (fun X Y => ?_) (fun X Y v => ?_) ?_ (fun v => ?_) rfl (fun v => rfl) ?_ (fun v => ?_) (s_town rfl h) hz
  · show (decide (0 < 231) && decide (11 = ai_own ET 15)) = true
    rw [ow15]
    rfl
  · show (decide (199 < 231) && decide (12 = ai_own ET 182)) = true
    rw [ow182]
    rfl
  · rw [mx15]
    exact ⟨Nat.le_of_ble_eq_true rfl, Nat.le_of_ble_eq_true rfl, Nat.le_of_ble_eq_true rfl, Nat.le_of_ble_eq_true rfl⟩
  · rw [mx182]
    exact ⟨Nat.le_of_ble_eq_true rfl, Nat.le_of_ble_eq_true rfl, Nat.le_of_ble_eq_true rfl, Nat.le_of_ble_eq_true rfl⟩
  · rw [mx15]
    rfl
  · rw [mx182]
    rfl
theorem op_fault (hL : L ≤ 3072) (hb : i + 6 ≤ L) (hn : n ≤ 512) (h : WW n X Y) (hz : ∀ X' Y', WW (n + 1) X' Y' → awi ET (lG L xs) 61 289 (1577, lL i w, [], 231, sl, mem X' Y') Z) : awi ET (lG L xs) 61 289 (331, lL i w, [], 231, sl, mem X Y) Z := by
  refine op_run (q := 331) (a := 0) (jT := 41) (jR := 44) (mT := 56) (mR := 199) (LT := [some (.ref 0)]) (LR := [some (.ref 199)]) hL (by omega) (by omega) (by decide +kernel) pl13_41 pl13_44 (fun X Y => ?_) (fun X Y v => ?_) ?_ (fun v => ?_) rfl (fun v => rfl) ?_ (fun v => ?_) (s_fault h) hz
  · show (decide (0 < 231) && decide (11 = ai_own ET 56)) = true
    rw [ow56]
    rfl
  · show (decide (199 < 231) && decide (12 = ai_own ET 199)) = true
    rw [ow199]
    rfl
  · rw [mx56]
    exact ⟨Nat.le_of_ble_eq_true rfl, Nat.le_of_ble_eq_true rfl, Nat.le_of_ble_eq_true rfl, Nat.le_of_ble_eq_true rfl⟩
  · rw [mx199]
    exact ⟨Nat.le_of_ble_eq_true rfl, Nat.le_of_ble_eq_true rfl, Nat.le_of_ble_eq_true rfl, Nat.le_of_ble_eq_true rfl⟩
  · rw [mx56]
    rfl
  · rw [mx199]
    rfl
theorem op_owes (hL : L ≤ 3072) (hb : i + 6 ≤ L) (hn : n ≤ 512) (h : WW n X Y) (hz : ∀ X' Y', WW (n + 1) X' Y' → awi ET (lG L xs) 61 289 (1577, lL i w, [], 231, sl, mem X' Y') Z) : awi ET (lG L xs) 61 289 (412, lL i w, [], 231, sl, mem X Y) Z := by
  refine op_run (q := 412) (a := 2) (jT := 54) (jR := 57) (mT := 57) (mR := 205) (LT := [some (.ref 0), some (.int (xs (i + 1))), some (.int (xs (i + 2)))]) (LR := [some (.ref 199), some (.int (xs (i + 1))), some (.int (xs (i + 2)))]) hL (by omega) (by omega) (by decide +kernel) pl13_54 pl13_57 (fun X Y => ?_) (fun X Y v => ?_) ?_ (fun v => ?_) rfl (fun v => rfl) ?_ (fun v => ?_) (s_owes h) hz
  · show (decide (0 < 231) && decide (11 = ai_own ET 57)) = true
    rw [ow57]
    rfl
  · show (decide (199 < 231) && decide (12 = ai_own ET 205)) = true
    rw [ow205]
    rfl
  · rw [mx57]
    exact ⟨Nat.le_of_ble_eq_true rfl, Nat.le_of_ble_eq_true rfl, Nat.le_of_ble_eq_true rfl, Nat.le_of_ble_eq_true rfl⟩
  · rw [mx205]
    exact ⟨Nat.le_of_ble_eq_true rfl, Nat.le_of_ble_eq_true rfl, Nat.le_of_ble_eq_true rfl, Nat.le_of_ble_eq_true rfl⟩
  · rw [mx57]
    rfl
  · rw [mx205]
    rfl
theorem op_now (hL : L ≤ 3072) (hb : i + 6 ≤ L) (hn : n ≤ 512) (h : WW n X Y) (hz : ∀ X' Y', WW (n + 1) X' Y' → awi ET (lG L xs) 61 289 (1577, lL i w, [], 231, sl, mem X' Y') Z) : awi ET (lG L xs) 61 289 (517, lL i w, [], 231, sl, mem X Y) Z := by
  refine op_run (q := 517) (a := 1) (jT := 61) (jR := 65) (mT := 60) (mR := 209) (LT := [some (.ref 0), some (.int (xs (i + 1))), none]) (LR := [some (.ref 199), some (.int (xs (i + 1))), none, none, none, none]) hL (by omega) (by omega) (by decide +kernel) pl13_61 pl13_65 (fun X Y => ?_) (fun X Y v => ?_) ?_ (fun v => ?_) rfl (fun v => rfl) ?_ (fun v => ?_) (s_now h) hz
  · show (decide (0 < 231) && decide (11 = ai_own ET 60)) = true
    rw [ow60]
    rfl
  · show (decide (199 < 231) && decide (12 = ai_own ET 209)) = true
    rw [ow209]
    rfl
  · rw [mx60]
    exact ⟨Nat.le_of_ble_eq_true rfl, Nat.le_of_ble_eq_true rfl, Nat.le_of_ble_eq_true rfl, Nat.le_of_ble_eq_true rfl⟩
  · rw [mx209]
    exact ⟨Nat.le_of_ble_eq_true rfl, Nat.le_of_ble_eq_true rfl, Nat.le_of_ble_eq_true rfl, Nat.le_of_ble_eq_true rfl⟩
  · rw [mx60]
    rfl
  · rw [mx209]
    rfl
theorem op_why (hL : L ≤ 3072) (hb : i + 6 ≤ L) (hn : n ≤ 512) (h : WW n X Y) (hz : ∀ X' Y', WW (n + 1) X' Y' → awi ET (lG L xs) 61 289 (1577, lL i w, [], 231, sl, mem X' Y') Z) : awi ET (lG L xs) 61 289 (542, lL i w, [], 231, sl, mem X Y) Z := by
  refine op_run (q := 542) (a := 3) (jT := 66) (jR := 70) (mT := 66) (mR := 216) (LT := [some (.ref 0), some (.int (xs (i + 1))), some (.int (xs (i + 2))), some (.int (xs (i + 3)))]) (LR := [some (.ref 199), some (.int (xs (i + 1))), some (.int (xs (i + 2))), some (.int (xs (i + 3)))]) hL (by omega) (by omega) (by decide +kernel) pl13_66 pl13_70 (fun X Y => ?_) (fun X Y v => ?_) ?_ (fun v => ?_) rfl (fun v => rfl) ?_ (fun v => ?_) (s_why h) hz
  · show (decide (0 < 231) && decide (11 = ai_own ET 66)) = true
    rw [ow66]
    rfl
  · show (decide (199 < 231) && decide (12 = ai_own ET 216)) = true
    rw [ow216]
    rfl
  · rw [mx66]
    exact ⟨Nat.le_of_ble_eq_true rfl, Nat.le_of_ble_eq_true rfl, Nat.le_of_ble_eq_true rfl, Nat.le_of_ble_eq_true rfl⟩
  · rw [mx216]
    exact ⟨Nat.le_of_ble_eq_true rfl, Nat.le_of_ble_eq_true rfl, Nat.le_of_ble_eq_true rfl, Nat.le_of_ble_eq_true rfl⟩
  · rw [mx66]
    rfl
  · rw [mx216]
    rfl
theorem op_hear (hL : L ≤ 3072) (hb : i + 6 ≤ L) (hn : n ≤ 512) (h : WW n X Y) (hz : ∀ X' Y', WW (n + 1) X' Y' → awi ET (lG L xs) 61 289 (1577, lL i w, [], 231, sl, mem X' Y') Z) : awi ET (lG L xs) 61 289 (591, lL i w, [], 231, sl, mem X Y) Z := by
  refine op_run (q := 591) (a := 3) (jT := 71) (jR := 74) (mT := 70) (mR := 219) (LT := [some (.ref 0), some (.int (xs (i + 1))), some (.int (xs (i + 2))), some (.int (xs (i + 3))), none]) (LR := [some (.ref 199), some (.int (xs (i + 1))), some (.int (xs (i + 2))), some (.int (xs (i + 3))), none]) hL (by omega) (by omega) (by decide +kernel) pl13_71 pl13_74 (fun X Y => ?_) (fun X Y v => ?_) ?_ (fun v => ?_) rfl (fun v => rfl) ?_ (fun v => ?_) (s_hear rfl hn h) hz
  · show (decide (0 < 231) && decide (11 = ai_own ET 70)) = true
    rw [ow70]
    rfl
  · show (decide (199 < 231) && decide (12 = ai_own ET 219)) = true
    rw [ow219]
    rfl
  · rw [mx70]
    exact ⟨Nat.le_of_ble_eq_true rfl, Nat.le_of_ble_eq_true rfl, Nat.le_of_ble_eq_true rfl, Nat.le_of_ble_eq_true rfl⟩
  · rw [mx219]
    exact ⟨Nat.le_of_ble_eq_true rfl, Nat.le_of_ble_eq_true rfl, Nat.le_of_ble_eq_true rfl, Nat.le_of_ble_eq_true rfl⟩
  · rw [mx70]
    rfl
  · rw [mx219]
    rfl
theorem op_tell (hL : L ≤ 3072) (hb : i + 6 ≤ L) (hn : n ≤ 512) (h : WW n X Y) (hz : ∀ X' Y', WW (n + 1) X' Y' → awi ET (lG L xs) 61 289 (1577, lL i w, [], 231, sl, mem X' Y') Z) : awi ET (lG L xs) 61 289 (640, lL i w, [], 231, sl, mem X Y) Z := by
  refine op_run (q := 640) (a := 3) (jT := 75) (jR := 78) (mT := 76) (mR := 225) (LT := [some (.ref 0), some (.int (xs (i + 1))), some (.int (xs (i + 2))), some (.int (xs (i + 3))), none]) (LR := [some (.ref 199), some (.int (xs (i + 1))), some (.int (xs (i + 2))), some (.int (xs (i + 3))), none]) hL (by omega) (by omega) (by decide +kernel) pl13_75 pl13_78 (fun X Y => ?_) (fun X Y v => ?_) ?_ (fun v => ?_) rfl (fun v => rfl) ?_ (fun v => ?_) (s_tell rfl hn h) hz
  · show (decide (0 < 231) && decide (11 = ai_own ET 76)) = true
    rw [ow76]
    rfl
  · show (decide (199 < 231) && decide (12 = ai_own ET 225)) = true
    rw [ow225]
    rfl
  · rw [mx76]
    exact ⟨Nat.le_of_ble_eq_true rfl, Nat.le_of_ble_eq_true rfl, Nat.le_of_ble_eq_true rfl, Nat.le_of_ble_eq_true rfl⟩
  · rw [mx225]
    exact ⟨Nat.le_of_ble_eq_true rfl, Nat.le_of_ble_eq_true rfl, Nat.le_of_ble_eq_true rfl, Nat.le_of_ble_eq_true rfl⟩
  · rw [mx76]
    rfl
  · rw [mx225]
    rfl
theorem op_days (hL : L ≤ 3072) (hb : i + 6 ≤ L) (hn : n ≤ 512) (h : WW n X Y) (hz : ∀ X' Y', WW (n + 1) X' Y' → awi ET (lG L xs) 61 289 (1577, lL i w, [], 231, sl, mem X' Y') Z) : awi ET (lG L xs) 61 289 (689, lL i w, [], 231, sl, mem X Y) Z := by
  refine op_run (q := 689) (a := 1) (jT := 79) (jR := 82) (mT := 83) (mR := 229) (LT := [some (.ref 0), some (.int (xs (i + 1)))]) (LR := [some (.ref 199), some (.int (xs (i + 1))), none]) hL (by omega) (by omega) (by decide +kernel) pl13_79 pl13_82 (fun X Y => ?_) (fun X Y v => ?_) ?_ (fun v => ?_) rfl (fun v => rfl) ?_ (fun v => ?_) (s_days rfl hn h) hz
  · show (decide (0 < 231) && decide (11 = ai_own ET 83)) = true
    rw [ow83]
    rfl
  · show (decide (199 < 231) && decide (12 = ai_own ET 229)) = true
    rw [ow229]
    rfl
  · rw [mx83]
    exact ⟨Nat.le_of_ble_eq_true rfl, Nat.le_of_ble_eq_true rfl, Nat.le_of_ble_eq_true rfl, Nat.le_of_ble_eq_true rfl⟩
  · rw [mx229]
    exact ⟨Nat.le_of_ble_eq_true rfl, Nat.le_of_ble_eq_true rfl, Nat.le_of_ble_eq_true rfl, Nat.le_of_ble_eq_true rfl⟩
  · rw [mx83]
    rfl
  · rw [mx229]
    rfl
theorem op_strike (hL : L ≤ 3072) (hb : i + 6 ≤ L) (hn : n ≤ 512) (h : WW n X Y) (hz : ∀ X' Y', WW (n + 1) X' Y' → awi ET (lG L xs) 61 289 (1577, lL i w, [], 231, sl, mem X' Y') Z) : awi ET (lG L xs) 61 289 (714, lL i w, [], 231, sl, mem X Y) Z := by
  refine op_run (q := 714) (a := 0) (jT := 83) (jR := 86) (mT := 88) (mR := 232) (LT := [some (.ref 0), none]) (LR := [some (.ref 199), none]) hL (by omega) (by omega) (by decide +kernel) pl13_83 pl13_86 (fun X Y => ?_) (fun X Y v => ?_) ?_ (fun v => ?_) rfl (fun v => rfl) ?_ (fun v => ?_) (s_strike rfl hn h) hz
  · show (decide (0 < 231) && decide (11 = ai_own ET 88)) = true
    rw [ow88]
    rfl
  · show (decide (199 < 231) && decide (12 = ai_own ET 232)) = true
    rw [ow232]
    rfl
  · rw [mx88]
    exact ⟨Nat.le_of_ble_eq_true rfl, Nat.le_of_ble_eq_true rfl, Nat.le_of_ble_eq_true rfl, Nat.le_of_ble_eq_true rfl⟩
  · rw [mx232]
    exact ⟨Nat.le_of_ble_eq_true rfl, Nat.le_of_ble_eq_true rfl, Nat.le_of_ble_eq_true rfl, Nat.le_of_ble_eq_true rfl⟩
  · rw [mx88]
    rfl
  · rw [mx232]
    rfl
theorem op_struck (hL : L ≤ 3072) (hb : i + 6 ≤ L) (hn : n ≤ 512) (h : WW n X Y) (hz : ∀ X' Y', WW (n + 1) X' Y' → awi ET (lG L xs) 61 289 (1577, lL i w, [], 231, sl, mem X' Y') Z) : awi ET (lG L xs) 61 289 (727, lL i w, [], 231, sl, mem X Y) Z := by
  refine op_run (q := 727) (a := 0) (jT := 87) (jR := 90) (mT := 93) (mR := 234) (LT := [some (.ref 0)]) (LR := [some (.ref 199)]) hL (by omega) (by omega) (by decide +kernel) pl13_87 pl13_90 (fun X Y => ?_) (fun X Y v => ?_) ?_ (fun v => ?_) rfl (fun v => rfl) ?_ (fun v => ?_) (s_struck h) hz
  · show (decide (0 < 231) && decide (11 = ai_own ET 93)) = true
    rw [ow93]
    rfl
  · show (decide (199 < 231) && decide (12 = ai_own ET 234)) = true
    rw [ow234]
    rfl
  · rw [mx93]
    exact ⟨Nat.le_of_ble_eq_true rfl, Nat.le_of_ble_eq_true rfl, Nat.le_of_ble_eq_true rfl, Nat.le_of_ble_eq_true rfl⟩
  · rw [mx234]
    exact ⟨Nat.le_of_ble_eq_true rfl, Nat.le_of_ble_eq_true rfl, Nat.le_of_ble_eq_true rfl, Nat.le_of_ble_eq_true rfl⟩
  · rw [mx93]
    rfl
  · rw [mx234]
    rfl
theorem op_undo (hL : L ≤ 3072) (hb : i + 6 ≤ L) (hn : n ≤ 512) (h : WW n X Y) (hz : ∀ X' Y', WW (n + 1) X' Y' → awi ET (lG L xs) 61 289 (1577, lL i w, [], 231, sl, mem X' Y') Z) : awi ET (lG L xs) 61 289 (740, lL i w, [], 231, sl, mem X Y) Z := by
  refine op_run (q := 740) (a := 0) (jT := 91) (jR := 94) (mT := 94) (mR := 215) (LT := [some (.ref 0)]) (LR := [some (.ref 199), none]) hL (by omega) (by omega) (by decide +kernel) pl13_91 pl13_94 (fun X Y => ?_) (fun X Y v => ?_) ?_ (fun v => ?_) rfl (fun v => rfl) ?_ (fun v => ?_) (s_undo rfl hn h) hz
  · show (decide (0 < 231) && decide (11 = ai_own ET 94)) = true
    rw [ow94]
    rfl
  · show (decide (199 < 231) && decide (12 = ai_own ET 215)) = true
    rw [ow215]
    rfl
  · rw [mx94]
    exact ⟨Nat.le_of_ble_eq_true rfl, Nat.le_of_ble_eq_true rfl, Nat.le_of_ble_eq_true rfl, Nat.le_of_ble_eq_true rfl⟩
  · rw [mx215]
    exact ⟨Nat.le_of_ble_eq_true rfl, Nat.le_of_ble_eq_true rfl, Nat.le_of_ble_eq_true rfl, Nat.le_of_ble_eq_true rfl⟩
  · rw [mx94]
    rfl
  · rw [mx215]
    rfl
theorem op_ring (hL : L ≤ 3072) (hb : i + 6 ≤ L) (hn : n ≤ 512) (h : WW n X Y) (hz : ∀ X' Y', WW (n + 1) X' Y' → awi ET (lG L xs) 61 289 (1577, lL i w, [], 231, sl, mem X' Y') Z) : awi ET (lG L xs) 61 289 (753, lL i w, [], 231, sl, mem X Y) Z := by
  refine op_run (q := 753) (a := 0) (jT := 95) (jR := 98) (mT := 96) (mR := 210) (LT := [some (.ref 0)]) (LR := [some (.ref 199), none]) hL (by omega) (by omega) (by decide +kernel) pl13_95 pl13_98 (fun X Y => ?_) (fun X Y v => ?_) ?_ (fun v => ?_) rfl (fun v => rfl) ?_ (fun v => ?_) (s_ring rfl hn h) hz
  · show (decide (0 < 231) && decide (11 = ai_own ET 96)) = true
    rw [ow96]
    rfl
  · show (decide (199 < 231) && decide (12 = ai_own ET 210)) = true
    rw [ow210]
    rfl
  · rw [mx96]
    exact ⟨Nat.le_of_ble_eq_true rfl, Nat.le_of_ble_eq_true rfl, Nat.le_of_ble_eq_true rfl, Nat.le_of_ble_eq_true rfl⟩
  · rw [mx210]
    exact ⟨Nat.le_of_ble_eq_true rfl, Nat.le_of_ble_eq_true rfl, Nat.le_of_ble_eq_true rfl, Nat.le_of_ble_eq_true rfl⟩
  · rw [mx96]
    rfl
  · rw [mx210]
    rfl
theorem op_ringAt (hL : L ≤ 3072) (hb : i + 6 ≤ L) (hn : n ≤ 512) (h : WW n X Y) (hz : ∀ X' Y', WW (n + 1) X' Y' → awi ET (lG L xs) 61 289 (1577, lL i w, [], 231, sl, mem X' Y') Z) : awi ET (lG L xs) 61 289 (766, lL i w, [], 231, sl, mem X Y) Z := by
  refine op_run (q := 766) (a := 1) (jT := 99) (jR := 102) (mT := 97) (mR := 214) (LT := [some (.ref 0), some (.int (xs (i + 1)))]) (LR := [some (.ref 199), some (.int (xs (i + 1)))]) hL (by omega) (by omega) (by decide +kernel) pl13_99 pl13_102 (fun X Y => ?_) (fun X Y v => ?_) ?_ (fun v => ?_) rfl (fun v => rfl) ?_ (fun v => ?_) (s_ringAt h) hz
  · show (decide (0 < 231) && decide (11 = ai_own ET 97)) = true
    rw [ow97]
    rfl
  · show (decide (199 < 231) && decide (12 = ai_own ET 214)) = true
    rw [ow214]
    rfl
  · rw [mx97]
    exact ⟨Nat.le_of_ble_eq_true rfl, Nat.le_of_ble_eq_true rfl, Nat.le_of_ble_eq_true rfl, Nat.le_of_ble_eq_true rfl⟩
  · rw [mx214]
    exact ⟨Nat.le_of_ble_eq_true rfl, Nat.le_of_ble_eq_true rfl, Nat.le_of_ble_eq_true rfl, Nat.le_of_ble_eq_true rfl⟩
  · rw [mx97]
    rfl
  · rw [mx214]
    rfl
theorem op_next (hL : L ≤ 3072) (hb : i + 6 ≤ L) (hn : n ≤ 512) (h : WW n X Y) (hz : ∀ X' Y', WW (n + 1) X' Y' → awi ET (lG L xs) 61 289 (1577, lL i w, [], 231, sl, mem X' Y') Z) : awi ET (lG L xs) 61 289 (791, lL i w, [], 231, sl, mem X Y) Z := by
  refine op_run (q := 791) (a := 0) (jT := 103) (jR := 106) (mT := 98) (mR := 235) (LT := [some (.ref 0), none]) (LR := [some (.ref 199), none]) hL (by omega) (by omega) (by decide +kernel) pl13_103 pl13_106 (fun X Y => ?_) (fun X Y v => ?_) ?_ (fun v => ?_) rfl (fun v => rfl) ?_ (fun v => ?_) (s_next h) hz
  · show (decide (0 < 231) && decide (11 = ai_own ET 98)) = true
    rw [ow98]
    rfl
  · show (decide (199 < 231) && decide (12 = ai_own ET 235)) = true
    rw [ow235]
    rfl
  · rw [mx98]
    exact ⟨Nat.le_of_ble_eq_true rfl, Nat.le_of_ble_eq_true rfl, Nat.le_of_ble_eq_true rfl, Nat.le_of_ble_eq_true rfl⟩
  · rw [mx235]
    exact ⟨Nat.le_of_ble_eq_true rfl, Nat.le_of_ble_eq_true rfl, Nat.le_of_ble_eq_true rfl, Nat.le_of_ble_eq_true rfl⟩
  · rw [mx98]
    rfl
  · rw [mx235]
    rfl
theorem op_hour (hL : L ≤ 3072) (hb : i + 6 ≤ L) (hn : n ≤ 512) (h : WW n X Y) (hz : ∀ X' Y', WW (n + 1) X' Y' → awi ET (lG L xs) 61 289 (1577, lL i w, [], 231, sl, mem X' Y') Z) : awi ET (lG L xs) 61 289 (804, lL i w, [], 231, sl, mem X Y) Z := by
  refine op_run (q := 804) (a := 0) (jT := 107) (jR := 110) (mT := 99) (mR := 236) (LT := [some (.ref 0)]) (LR := [some (.ref 199), none, none, none, none, none]) hL (by omega) (by omega) (by decide +kernel) pl13_107 pl13_110 (fun X Y => ?_) (fun X Y v => ?_) ?_ (fun v => ?_) rfl (fun v => rfl) ?_ (fun v => ?_) (s_hour rfl h) hz
  · show (decide (0 < 231) && decide (11 = ai_own ET 99)) = true
    rw [ow99]
    rfl
  · show (decide (199 < 231) && decide (12 = ai_own ET 236)) = true
    rw [ow236]
    rfl
  · rw [mx99]
    exact ⟨Nat.le_of_ble_eq_true rfl, Nat.le_of_ble_eq_true rfl, Nat.le_of_ble_eq_true rfl, Nat.le_of_ble_eq_true rfl⟩
  · rw [mx236]
    exact ⟨Nat.le_of_ble_eq_true rfl, Nat.le_of_ble_eq_true rfl, Nat.le_of_ble_eq_true rfl, Nat.le_of_ble_eq_true rfl⟩
  · rw [mx99]
    rfl
  · rw [mx236]
    rfl
theorem op_with (hL : L ≤ 3072) (hb : i + 6 ≤ L) (hn : n ≤ 512) (h : WW n X Y) (hz : ∀ X' Y', WW (n + 1) X' Y' → awi ET (lG L xs) 61 289 (1577, lL i w, [], 231, sl, mem X' Y') Z) : awi ET (lG L xs) 61 289 (817, lL i w, [], 231, sl, mem X Y) Z := by
  refine op_run (q := 817) (a := 1) (jT := 111) (jR := 114) (mT := 104) (mR := 241) (LT := [some (.ref 0), some (.int (xs (i + 1)))]) (LR := [some (.ref 199), some (.int (xs (i + 1)))]) hL (by omega) (by omega) (by decide +kernel) pl13_111 pl13_114 (fun X Y => ?_) (fun X Y v => ?_) ?_ (fun v => ?_) rfl (fun v => rfl) ?_ (fun v => ?_) (s_with h) hz
  · show (decide (0 < 231) && decide (11 = ai_own ET 104)) = true
    rw [ow104]
    rfl
  · show (decide (199 < 231) && decide (12 = ai_own ET 241)) = true
    rw [ow241]
    rfl
  · rw [mx104]
    exact ⟨Nat.le_of_ble_eq_true rfl, Nat.le_of_ble_eq_true rfl, Nat.le_of_ble_eq_true rfl, Nat.le_of_ble_eq_true rfl⟩
  · rw [mx241]
    exact ⟨Nat.le_of_ble_eq_true rfl, Nat.le_of_ble_eq_true rfl, Nat.le_of_ble_eq_true rfl, Nat.le_of_ble_eq_true rfl⟩
  · rw [mx104]
    rfl
  · rw [mx241]
    rfl
theorem op_prices (hL : L ≤ 3072) (hb : i + 6 ≤ L) (hn : n ≤ 512) (h : WW n X Y) (hz : ∀ X' Y', WW (n + 1) X' Y' → awi ET (lG L xs) 61 289 (1577, lL i w, [], 231, sl, mem X' Y') Z) : awi ET (lG L xs) 61 289 (842, lL i w, [], 231, sl, mem X Y) Z := by
  refine op_run (q := 842) (a := 1) (jT := 115) (jR := 118) (mT := 105) (mR := 242) (LT := [some (.ref 0), some (.int (xs (i + 1)))]) (LR := [some (.ref 199), some (.int (xs (i + 1))), none, none, none, none, none]) hL (by omega) (by omega) (by decide +kernel) pl13_115 pl13_118 (fun X Y => ?_) (fun X Y v => ?_) ?_ (fun v => ?_) rfl (fun v => rfl) ?_ (fun v => ?_) (s_prices h) hz
  · show (decide (0 < 231) && decide (11 = ai_own ET 105)) = true
    rw [ow105]
    rfl
  · show (decide (199 < 231) && decide (12 = ai_own ET 242)) = true
    rw [ow242]
    rfl
  · rw [mx105]
    exact ⟨Nat.le_of_ble_eq_true rfl, Nat.le_of_ble_eq_true rfl, Nat.le_of_ble_eq_true rfl, Nat.le_of_ble_eq_true rfl⟩
  · rw [mx242]
    exact ⟨Nat.le_of_ble_eq_true rfl, Nat.le_of_ble_eq_true rfl, Nat.le_of_ble_eq_true rfl, Nat.le_of_ble_eq_true rfl⟩
  · rw [mx105]
    rfl
  · rw [mx242]
    rfl
theorem op_price (hL : L ≤ 3072) (hb : i + 6 ≤ L) (hn : n ≤ 512) (h : WW n X Y) (hz : ∀ X' Y', WW (n + 1) X' Y' → awi ET (lG L xs) 61 289 (1577, lL i w, [], 231, sl, mem X' Y') Z) : awi ET (lG L xs) 61 289 (867, lL i w, [], 231, sl, mem X Y) Z := by
  refine op_run (q := 867) (a := 1) (jT := 119) (jR := 122) (mT := 110) (mR := 243) (LT := [some (.ref 0), some (.int (xs (i + 1)))]) (LR := [some (.ref 199), some (.int (xs (i + 1)))]) hL (by omega) (by omega) (by decide +kernel) pl13_119 pl13_122 (fun X Y => ?_) (fun X Y v => ?_) ?_ (fun v => ?_) rfl (fun v => rfl) ?_ (fun v => ?_) (s_price h) hz
  · show (decide (0 < 231) && decide (11 = ai_own ET 110)) = true
    rw [ow110]
    rfl
  · show (decide (199 < 231) && decide (12 = ai_own ET 243)) = true
    rw [ow243]
    rfl
  · rw [mx110]
    exact ⟨Nat.le_of_ble_eq_true rfl, Nat.le_of_ble_eq_true rfl, Nat.le_of_ble_eq_true rfl, Nat.le_of_ble_eq_true rfl⟩
  · rw [mx243]
    exact ⟨Nat.le_of_ble_eq_true rfl, Nat.le_of_ble_eq_true rfl, Nat.le_of_ble_eq_true rfl, Nat.le_of_ble_eq_true rfl⟩
  · rw [mx110]
    rfl
  · rw [mx243]
    rfl
theorem op_wants (hL : L ≤ 3072) (hb : i + 6 ≤ L) (hn : n ≤ 512) (h : WW n X Y) (hz : ∀ X' Y', WW (n + 1) X' Y' → awi ET (lG L xs) 61 289 (1577, lL i w, [], 231, sl, mem X' Y') Z) : awi ET (lG L xs) 61 289 (892, lL i w, [], 231, sl, mem X Y) Z := by
  refine op_run (q := 892) (a := 1) (jT := 123) (jR := 126) (mT := 111) (mR := 244) (LT := [some (.ref 0), some (.int (xs (i + 1)))]) (LR := [some (.ref 199), some (.int (xs (i + 1)))]) hL (by omega) (by omega) (by decide +kernel) pl13_123 pl13_126 (fun X Y => ?_) (fun X Y v => ?_) ?_ (fun v => ?_) rfl (fun v => rfl) ?_ (fun v => ?_) (s_wants h) hz
  · show (decide (0 < 231) && decide (11 = ai_own ET 111)) = true
    rw [ow111]
    rfl
  · show (decide (199 < 231) && decide (12 = ai_own ET 244)) = true
    rw [ow244]
    rfl
  · rw [mx111]
    exact ⟨Nat.le_of_ble_eq_true rfl, Nat.le_of_ble_eq_true rfl, Nat.le_of_ble_eq_true rfl, Nat.le_of_ble_eq_true rfl⟩
  · rw [mx244]
    exact ⟨Nat.le_of_ble_eq_true rfl, Nat.le_of_ble_eq_true rfl, Nat.le_of_ble_eq_true rfl, Nat.le_of_ble_eq_true rfl⟩
  · rw [mx111]
    rfl
  · rw [mx244]
    rfl
theorem op_saved (hL : L ≤ 3072) (hb : i + 6 ≤ L) (hn : n ≤ 512) (h : WW n X Y) (hz : ∀ X' Y', WW (n + 1) X' Y' → awi ET (lG L xs) 61 289 (1577, lL i w, [], 231, sl, mem X' Y') Z) : awi ET (lG L xs) 61 289 (1020, lL i w, [], 231, sl, mem X Y) Z := by
  refine op_run (q := 1020) (a := 5) (jT := 131) (jR := 134) (mT := 112) (mR := 250) (LT := [some (.ref 0), some (.int (xs (i + 1))), some (.int (xs (i + 2))), some (.int (xs (i + 3))), some (.int (xs (i + 4))), some (.int (xs (i + 5))), none, none, none, none, none]) (LR := [some (.ref 199), some (.int (xs (i + 1))), some (.int (xs (i + 2))), some (.int (xs (i + 3))), some (.int (xs (i + 4))), some (.int (xs (i + 5))), none, none, none]) hL (by omega) (by omega) (by decide +kernel) pl13_131 pl13_134 (fun X Y => ?_) (fun X Y v => ?_) ?_ (fun v => ?_) rfl (fun v => rfl) ?_ (fun v => ?_) (s_saved h) hz
  · show (decide (0 < 231) && decide (11 = ai_own ET 112)) = true
    rw [ow112]
    rfl
  · show (decide (199 < 231) && decide (12 = ai_own ET 250)) = true
    rw [ow250]
    rfl
  · rw [mx112]
    exact ⟨Nat.le_of_ble_eq_true rfl, Nat.le_of_ble_eq_true rfl, Nat.le_of_ble_eq_true rfl, Nat.le_of_ble_eq_true rfl⟩
  · rw [mx250]
    exact ⟨Nat.le_of_ble_eq_true rfl, Nat.le_of_ble_eq_true rfl, Nat.le_of_ble_eq_true rfl, Nat.le_of_ble_eq_true rfl⟩
  · rw [mx112]
    rfl
  · rw [mx250]
    rfl
theorem op_sermon (hL : L ≤ 3072) (hb : i + 6 ≤ L) (hn : n ≤ 512) (h : WW n X Y) (hz : ∀ X' Y', WW (n + 1) X' Y' → awi ET (lG L xs) 61 289 (1577, lL i w, [], 231, sl, mem X' Y') Z) : awi ET (lG L xs) 61 289 (1093, lL i w, [], 231, sl, mem X Y) Z := by
  refine op_run (q := 1093) (a := 3) (jT := 135) (jR := 138) (mT := 116) (mR := 251) (LT := [some (.ref 0), some (.int (xs (i + 1))), some (.int (xs (i + 2))), some (.int (xs (i + 3))), none, none, none]) (LR := [some (.ref 199), some (.int (xs (i + 1))), some (.int (xs (i + 2))), some (.int (xs (i + 3))), none, none]) hL (by omega) (by omega) (by decide +kernel) pl13_135 pl13_138 (fun X Y => ?_) (fun X Y v => ?_) ?_ (fun v => ?_) rfl (fun v => rfl) ?_ (fun v => ?_) (s_sermon hn h) hz
  · show (decide (0 < 231) && decide (11 = ai_own ET 116)) = true
    rw [ow116]
    rfl
  · show (decide (199 < 231) && decide (12 = ai_own ET 251)) = true
    rw [ow251]
    rfl
  · rw [mx116]
    exact ⟨Nat.le_of_ble_eq_true rfl, Nat.le_of_ble_eq_true rfl, Nat.le_of_ble_eq_true rfl, Nat.le_of_ble_eq_true rfl⟩
  · rw [mx251]
    exact ⟨Nat.le_of_ble_eq_true rfl, Nat.le_of_ble_eq_true rfl, Nat.le_of_ble_eq_true rfl, Nat.le_of_ble_eq_true rfl⟩
  · rw [mx116]
    rfl
  · rw [mx251]
    rfl
theorem op_crowd (hL : L ≤ 3072) (hb : i + 6 ≤ L) (hn : n ≤ 512) (h : WW n X Y) (hz : ∀ X' Y', WW (n + 1) X' Y' → awi ET (lG L xs) 61 289 (1577, lL i w, [], 231, sl, mem X' Y') Z) : awi ET (lG L xs) 61 289 (1142, lL i w, [], 231, sl, mem X Y) Z := by
  refine op_run (q := 1142) (a := 2) (jT := 139) (jR := 142) (mT := 117) (mR := 252) (LT := [some (.ref 0), some (.int (xs (i + 1))), some (.int (xs (i + 2))), none, none]) (LR := [some (.ref 199), some (.int (xs (i + 1))), some (.int (xs (i + 2))), none, none]) hL (by omega) (by omega) (by decide +kernel) pl13_139 pl13_142 (fun X Y => ?_) (fun X Y v => ?_) ?_ (fun v => ?_) rfl (fun v => rfl) ?_ (fun v => ?_) (s_crowd h) hz
  · show (decide (0 < 231) && decide (11 = ai_own ET 117)) = true
    rw [ow117]
    rfl
  · show (decide (199 < 231) && decide (12 = ai_own ET 252)) = true
    rw [ow252]
    rfl
  · rw [mx117]
    exact ⟨Nat.le_of_ble_eq_true rfl, Nat.le_of_ble_eq_true rfl, Nat.le_of_ble_eq_true rfl, Nat.le_of_ble_eq_true rfl⟩
  · rw [mx252]
    exact ⟨Nat.le_of_ble_eq_true rfl, Nat.le_of_ble_eq_true rfl, Nat.le_of_ble_eq_true rfl, Nat.le_of_ble_eq_true rfl⟩
  · rw [mx117]
    rfl
  · rw [mx252]
    rfl
theorem op_sold (hL : L ≤ 3072) (hb : i + 6 ≤ L) (hn : n ≤ 512) (h : WW n X Y) (hz : ∀ X' Y', WW (n + 1) X' Y' → awi ET (lG L xs) 61 289 (1577, lL i w, [], 231, sl, mem X' Y') Z) : awi ET (lG L xs) 61 289 (1179, lL i w, [], 231, sl, mem X Y) Z := by
  refine op_run (q := 1179) (a := 2) (jT := 143) (jR := 146) (mT := 118) (mR := 253) (LT := [some (.ref 0), some (.int (xs (i + 1))), some (.int (xs (i + 2)))]) (LR := [some (.ref 199), some (.int (xs (i + 1))), some (.int (xs (i + 2)))]) hL (by omega) (by omega) (by decide +kernel) pl13_143 pl13_146 (fun X Y => ?_) (fun X Y v => ?_) ?_ (fun v => ?_) rfl (fun v => rfl) ?_ (fun v => ?_) (s_sold hn h) hz
  · show (decide (0 < 231) && decide (11 = ai_own ET 118)) = true
    rw [ow118]
    rfl
  · show (decide (199 < 231) && decide (12 = ai_own ET 253)) = true
    rw [ow253]
    rfl
  · rw [mx118]
    exact ⟨Nat.le_of_ble_eq_true rfl, Nat.le_of_ble_eq_true rfl, Nat.le_of_ble_eq_true rfl, Nat.le_of_ble_eq_true rfl⟩
  · rw [mx253]
    exact ⟨Nat.le_of_ble_eq_true rfl, Nat.le_of_ble_eq_true rfl, Nat.le_of_ble_eq_true rfl, Nat.le_of_ble_eq_true rfl⟩
  · rw [mx118]
    rfl
  · rw [mx253]
    rfl
theorem op_best (hL : L ≤ 3072) (hb : i + 6 ≤ L) (hn : n ≤ 512) (h : WW n X Y) (hz : ∀ X' Y', WW (n + 1) X' Y' → awi ET (lG L xs) 61 289 (1577, lL i w, [], 231, sl, mem X' Y') Z) : awi ET (lG L xs) 61 289 (1216, lL i w, [], 231, sl, mem X Y) Z := by
  refine op_run (q := 1216) (a := 1) (jT := 147) (jR := 150) (mT := 120) (mR := 255) (LT := [some (.ref 0), some (.int (xs (i + 1))), none, none, none, none]) (LR := [some (.ref 199), some (.int (xs (i + 1))), none, none]) hL (by omega) (by omega) (by decide +kernel) pl13_147 pl13_150 (fun X Y => ?_) (fun X Y v => ?_) ?_ (fun v => ?_) rfl (fun v => rfl) ?_ (fun v => ?_) (s_best hn h) hz
  · show (decide (0 < 231) && decide (11 = ai_own ET 120)) = true
    rw [ow120]
    rfl
  · show (decide (199 < 231) && decide (12 = ai_own ET 255)) = true
    rw [ow255]
    rfl
  · rw [mx120]
    exact ⟨Nat.le_of_ble_eq_true rfl, Nat.le_of_ble_eq_true rfl, Nat.le_of_ble_eq_true rfl, Nat.le_of_ble_eq_true rfl⟩
  · rw [mx255]
    exact ⟨Nat.le_of_ble_eq_true rfl, Nat.le_of_ble_eq_true rfl, Nat.le_of_ble_eq_true rfl, Nat.le_of_ble_eq_true rfl⟩
  · rw [mx120]
    rfl
  · rw [mx255]
    rfl
theorem op_talked (hL : L ≤ 3072) (hb : i + 6 ≤ L) (hn : n ≤ 512) (h : WW n X Y) (hz : ∀ X' Y', WW (n + 1) X' Y' → awi ET (lG L xs) 61 289 (1577, lL i w, [], 231, sl, mem X' Y') Z) : awi ET (lG L xs) 61 289 (1241, lL i w, [], 231, sl, mem X Y) Z := by
  refine op_run (q := 1241) (a := 0) (jT := 151) (jR := 154) (mT := 121) (mR := 256) (LT := [some (.ref 0), none, none]) (LR := [some (.ref 199), none, none, none, none, none]) hL (by omega) (by omega) (by decide +kernel) pl13_151 pl13_154 (fun X Y => ?_) (fun X Y v => ?_) ?_ (fun v => ?_) rfl (fun v => rfl) ?_ (fun v => ?_) (s_talked rfl h) hz
  · show (decide (0 < 231) && decide (11 = ai_own ET 121)) = true
    rw [ow121]
    rfl
  · show (decide (199 < 231) && decide (12 = ai_own ET 256)) = true
    rw [ow256]
    rfl
  · rw [mx121]
    exact ⟨Nat.le_of_ble_eq_true rfl, Nat.le_of_ble_eq_true rfl, Nat.le_of_ble_eq_true rfl, Nat.le_of_ble_eq_true rfl⟩
  · rw [mx256]
    exact ⟨Nat.le_of_ble_eq_true rfl, Nat.le_of_ble_eq_true rfl, Nat.le_of_ble_eq_true rfl, Nat.le_of_ble_eq_true rfl⟩
  · rw [mx121]
    rfl
  · rw [mx256]
    rfl
theorem op_talk (hL : L ≤ 3072) (hb : i + 6 ≤ L) (hn : n ≤ 512) (h : WW n X Y) (hz : ∀ X' Y', WW (n + 1) X' Y' → awi ET (lG L xs) 61 289 (1577, lL i w, [], 231, sl, mem X' Y') Z) : awi ET (lG L xs) 61 289 (1254, lL i w, [], 231, sl, mem X Y) Z := by
  refine op_run (q := 1254) (a := 2) (jT := 155) (jR := 158) (mT := 133) (mR := 262) (LT := [some (.ref 0), some (.int (xs (i + 1))), some (.int (xs (i + 2)))]) (LR := [some (.ref 199), some (.int (xs (i + 1))), some (.int (xs (i + 2)))]) hL (by omega) (by omega) (by decide +kernel) pl13_155 pl13_158 (fun X Y => ?_) (fun X Y v => ?_) ?_ (fun v => ?_) rfl (fun v => rfl) ?_ (fun v => ?_) (s_talk h) hz
  · show (decide (0 < 231) && decide (11 = ai_own ET 133)) = true
    rw [ow133]
    rfl
  · show (decide (199 < 231) && decide (12 = ai_own ET 262)) = true
    rw [ow262]
    rfl
  · rw [mx133]
    exact ⟨Nat.le_of_ble_eq_true rfl, Nat.le_of_ble_eq_true rfl, Nat.le_of_ble_eq_true rfl, Nat.le_of_ble_eq_true rfl⟩
  · rw [mx262]
    exact ⟨Nat.le_of_ble_eq_true rfl, Nat.le_of_ble_eq_true rfl, Nat.le_of_ble_eq_true rfl, Nat.le_of_ble_eq_true rfl⟩
  · rw [mx133]
    rfl
  · rw [mx262]
    rfl
theorem op_drawn (hL : L ≤ 3072) (hb : i + 6 ≤ L) (hn : n ≤ 512) (h : WW n X Y) (hz : ∀ X' Y', WW (n + 1) X' Y' → awi ET (lG L xs) 61 289 (1577, lL i w, [], 231, sl, mem X' Y') Z) : awi ET (lG L xs) 61 289 (1291, lL i w, [], 231, sl, mem X Y) Z := by
  refine op_run (q := 1291) (a := 3) (jT := 159) (jR := 162) (mT := 135) (mR := 263) (LT := [some (.ref 0), some (.int (xs (i + 1))), some (.int (xs (i + 2))), some (.int (xs (i + 3)))]) (LR := [some (.ref 199), some (.int (xs (i + 1))), some (.int (xs (i + 2))), some (.int (xs (i + 3)))]) hL (by omega) (by omega) (by decide +kernel) pl13_159 pl13_162 (fun X Y => ?_) (fun X Y v => ?_) ?_ (fun v => ?_) rfl (fun v => rfl) ?_ (fun v => ?_) (s_drawn rfl hn h) hz
  · show (decide (0 < 231) && decide (11 = ai_own ET 135)) = true
    rw [ow135]
    rfl
  · show (decide (199 < 231) && decide (12 = ai_own ET 263)) = true
    rw [ow263]
    rfl
  · rw [mx135]
    exact ⟨Nat.le_of_ble_eq_true rfl, Nat.le_of_ble_eq_true rfl, Nat.le_of_ble_eq_true rfl, Nat.le_of_ble_eq_true rfl⟩
  · rw [mx263]
    exact ⟨Nat.le_of_ble_eq_true rfl, Nat.le_of_ble_eq_true rfl, Nat.le_of_ble_eq_true rfl, Nat.le_of_ble_eq_true rfl⟩
  · rw [mx135]
    rfl
  · rw [mx263]
    rfl
theorem op_odds (hL : L ≤ 3072) (hb : i + 6 ≤ L) (hn : n ≤ 512) (h : WW n X Y) (hz : ∀ X' Y', WW (n + 1) X' Y' → awi ET (lG L xs) 61 289 (1577, lL i w, [], 231, sl, mem X' Y') Z) : awi ET (lG L xs) 61 289 (1340, lL i w, [], 231, sl, mem X Y) Z := by
  refine op_run (q := 1340) (a := 3) (jT := 163) (jR := 166) (mT := 139) (mR := 266) (LT := [some (.ref 0), some (.int (xs (i + 1))), some (.int (xs (i + 2))), some (.int (xs (i + 3))), none, none]) (LR := [some (.ref 199), some (.int (xs (i + 1))), some (.int (xs (i + 2))), some (.int (xs (i + 3))), none, none]) hL (by omega) (by omega) (by decide +kernel) pl13_163 pl13_166 (fun X Y => ?_) (fun X Y v => ?_) ?_ (fun v => ?_) rfl (fun v => rfl) ?_ (fun v => ?_) (s_odds rfl h) hz
  · show (decide (0 < 231) && decide (11 = ai_own ET 139)) = true
    rw [ow139]
    rfl
  · show (decide (199 < 231) && decide (12 = ai_own ET 266)) = true
    rw [ow266]
    rfl
  · rw [mx139]
    exact ⟨Nat.le_of_ble_eq_true rfl, Nat.le_of_ble_eq_true rfl, Nat.le_of_ble_eq_true rfl, Nat.le_of_ble_eq_true rfl⟩
  · rw [mx266]
    exact ⟨Nat.le_of_ble_eq_true rfl, Nat.le_of_ble_eq_true rfl, Nat.le_of_ble_eq_true rfl, Nat.le_of_ble_eq_true rfl⟩
  · rw [mx139]
    rfl
  · rw [mx266]
    rfl
theorem op_most (hL : L ≤ 3072) (hb : i + 6 ≤ L) (hn : n ≤ 512) (h : WW n X Y) (hz : ∀ X' Y', WW (n + 1) X' Y' → awi ET (lG L xs) 61 289 (1577, lL i w, [], 231, sl, mem X' Y') Z) : awi ET (lG L xs) 61 289 (1389, lL i w, [], 231, sl, mem X Y) Z := by
  refine op_run (q := 1389) (a := 1) (jT := 167) (jR := 170) (mT := 140) (mR := 269) (LT := [some (.ref 0), some (.int (xs (i + 1))), none, none, none, none]) (LR := [some (.ref 199), some (.int (xs (i + 1))), none, none]) hL (by omega) (by omega) (by decide +kernel) pl13_167 pl13_170 (fun X Y => ?_) (fun X Y v => ?_) ?_ (fun v => ?_) rfl (fun v => rfl) ?_ (fun v => ?_) (s_most hn h) hz
  · show (decide (0 < 231) && decide (11 = ai_own ET 140)) = true
    rw [ow140]
    rfl
  · show (decide (199 < 231) && decide (12 = ai_own ET 269)) = true
    rw [ow269]
    rfl
  · rw [mx140]
    exact ⟨Nat.le_of_ble_eq_true rfl, Nat.le_of_ble_eq_true rfl, Nat.le_of_ble_eq_true rfl, Nat.le_of_ble_eq_true rfl⟩
  · rw [mx269]
    exact ⟨Nat.le_of_ble_eq_true rfl, Nat.le_of_ble_eq_true rfl, Nat.le_of_ble_eq_true rfl, Nat.le_of_ble_eq_true rfl⟩
  · rw [mx140]
    rfl
  · rw [mx269]
    rfl
theorem op_book (hL : L ≤ 3072) (hb : i + 6 ≤ L) (hn : n ≤ 512) (h : WW n X Y) (hz : ∀ X' Y', WW (n + 1) X' Y' → awi ET (lG L xs) 61 289 (1577, lL i w, [], 231, sl, mem X' Y') Z) : awi ET (lG L xs) 61 289 (1414, lL i w, [], 231, sl, mem X Y) Z := by
  refine op_run (q := 1414) (a := 1) (jT := 171) (jR := 174) (mT := 143) (mR := 271) (LT := [some (.ref 0), some (.int (xs (i + 1))), none, none]) (LR := [some (.ref 199), some (.int (xs (i + 1))), none, none, none]) hL (by omega) (by omega) (by decide +kernel) pl13_171 pl13_174 (fun X Y => ?_) (fun X Y v => ?_) ?_ (fun v => ?_) rfl (fun v => rfl) ?_ (fun v => ?_) (s_book rfl hn h) hz
  · show (decide (0 < 231) && decide (11 = ai_own ET 143)) = true
    rw [ow143]
    rfl
  · show (decide (199 < 231) && decide (12 = ai_own ET 271)) = true
    rw [ow271]
    rfl
  · rw [mx143]
    exact ⟨Nat.le_of_ble_eq_true rfl, Nat.le_of_ble_eq_true rfl, Nat.le_of_ble_eq_true rfl, Nat.le_of_ble_eq_true rfl⟩
  · rw [mx271]
    exact ⟨Nat.le_of_ble_eq_true rfl, Nat.le_of_ble_eq_true rfl, Nat.le_of_ble_eq_true rfl, Nat.le_of_ble_eq_true rfl⟩
  · rw [mx143]
    rfl
  · rw [mx271]
    rfl
theorem op_booked (hL : L ≤ 3072) (hb : i + 6 ≤ L) (hn : n ≤ 512) (h : WW n X Y) (hz : ∀ X' Y', WW (n + 1) X' Y' → awi ET (lG L xs) 61 289 (1577, lL i w, [], 231, sl, mem X' Y') Z) : awi ET (lG L xs) 61 289 (1439, lL i w, [], 231, sl, mem X Y) Z := by
  refine op_run (q := 1439) (a := 1) (jT := 175) (jR := 178) (mT := 154) (mR := 275) (LT := [some (.ref 0), some (.int (xs (i + 1)))]) (LR := [some (.ref 199), some (.int (xs (i + 1)))]) hL (by omega) (by omega) (by decide +kernel) pl13_175 pl13_178 (fun X Y => ?_) (fun X Y v => ?_) ?_ (fun v => ?_) rfl (fun v => rfl) ?_ (fun v => ?_) (s_booked h) hz
  · show (decide (0 < 231) && decide (11 = ai_own ET 154)) = true
    rw [ow154]
    rfl
  · show (decide (199 < 231) && decide (12 = ai_own ET 275)) = true
    rw [ow275]
    rfl
  · rw [mx154]
    exact ⟨Nat.le_of_ble_eq_true rfl, Nat.le_of_ble_eq_true rfl, Nat.le_of_ble_eq_true rfl, Nat.le_of_ble_eq_true rfl⟩
  · rw [mx275]
    exact ⟨Nat.le_of_ble_eq_true rfl, Nat.le_of_ble_eq_true rfl, Nat.le_of_ble_eq_true rfl, Nat.le_of_ble_eq_true rfl⟩
  · rw [mx154]
    rfl
  · rw [mx275]
    rfl
theorem op_sentence (hL : L ≤ 3072) (hb : i + 6 ≤ L) (hn : n ≤ 512) (h : WW n X Y) (hz : ∀ X' Y', WW (n + 1) X' Y' → awi ET (lG L xs) 61 289 (1577, lL i w, [], 231, sl, mem X' Y') Z) : awi ET (lG L xs) 61 289 (1464, lL i w, [], 231, sl, mem X Y) Z := by
  refine op_run (q := 1464) (a := 0) (jT := 179) (jR := 182) (mT := 155) (mR := 276) (LT := [some (.ref 0), none]) (LR := [some (.ref 199), none, none]) hL (by omega) (by omega) (by decide +kernel) pl13_179 pl13_182 (fun X Y => ?_) (fun X Y v => ?_) ?_ (fun v => ?_) rfl (fun v => rfl) ?_ (fun v => ?_) (s_sentence rfl h) hz
  · show (decide (0 < 231) && decide (11 = ai_own ET 155)) = true
    rw [ow155]
    rfl
  · show (decide (199 < 231) && decide (12 = ai_own ET 276)) = true
    rw [ow276]
    rfl
  · rw [mx155]
    exact ⟨Nat.le_of_ble_eq_true rfl, Nat.le_of_ble_eq_true rfl, Nat.le_of_ble_eq_true rfl, Nat.le_of_ble_eq_true rfl⟩
  · rw [mx276]
    exact ⟨Nat.le_of_ble_eq_true rfl, Nat.le_of_ble_eq_true rfl, Nat.le_of_ble_eq_true rfl, Nat.le_of_ble_eq_true rfl⟩
  · rw [mx155]
    rfl
  · rw [mx276]
    rfl
theorem op_said (hL : L ≤ 3072) (hb : i + 6 ≤ L) (hn : n ≤ 512) (h : WW n X Y) (hz : ∀ X' Y', WW (n + 1) X' Y' → awi ET (lG L xs) 61 289 (1577, lL i w, [], 231, sl, mem X' Y') Z) : awi ET (lG L xs) 61 289 (1477, lL i w, [], 231, sl, mem X Y) Z := by
  refine op_run (q := 1477) (a := 1) (jT := 183) (jR := 186) (mT := 164) (mR := 283) (LT := [some (.ref 0), some (.int (xs (i + 1))), none, none, none]) (LR := [some (.ref 199), some (.int (xs (i + 1))), none, none]) hL (by omega) (by omega) (by decide +kernel) pl13_183 pl13_186 (fun X Y => ?_) (fun X Y v => ?_) ?_ (fun v => ?_) rfl (fun v => rfl) ?_ (fun v => ?_) (s_said rfl h) hz
  · show (decide (0 < 231) && decide (11 = ai_own ET 164)) = true
    rw [ow164]
    rfl
  · show (decide (199 < 231) && decide (12 = ai_own ET 283)) = true
    rw [ow283]
    rfl
  · rw [mx164]
    exact ⟨Nat.le_of_ble_eq_true rfl, Nat.le_of_ble_eq_true rfl, Nat.le_of_ble_eq_true rfl, Nat.le_of_ble_eq_true rfl⟩
  · rw [mx283]
    exact ⟨Nat.le_of_ble_eq_true rfl, Nat.le_of_ble_eq_true rfl, Nat.le_of_ble_eq_true rfl, Nat.le_of_ble_eq_true rfl⟩
  · rw [mx164]
    rfl
  · rw [mx283]
    rfl
theorem op_image (hL : L ≤ 3072) (hb : i + 6 ≤ L) (hn : n ≤ 512) (h : WW n X Y) (hz : ∀ X' Y', WW (n + 1) X' Y' → awi ET (lG L xs) 61 289 (1577, lL i w, [], 231, sl, mem X' Y') Z) : awi ET (lG L xs) 61 289 (1502, lL i w, [], 231, sl, mem X Y) Z := by
  refine op_run (q := 1502) (a := 1) (jT := 187) (jR := 190) (mT := 170) (mR := 286) (LT := [some (.ref 0), some (.int (xs (i + 1)))]) (LR := [some (.ref 199), some (.int (xs (i + 1))), none]) hL (by omega) (by omega) (by decide +kernel) pl13_187 pl13_190 (fun X Y => ?_) (fun X Y v => ?_) ?_ (fun v => ?_) rfl (fun v => rfl) ?_ (fun v => ?_) (s_image rfl h) hz
  · show (decide (0 < 231) && decide (11 = ai_own ET 170)) = true
    rw [ow170]
    rfl
  · show (decide (199 < 231) && decide (12 = ai_own ET 286)) = true
    rw [ow286]
    rfl
  · rw [mx170]
    exact ⟨Nat.le_of_ble_eq_true rfl, Nat.le_of_ble_eq_true rfl, Nat.le_of_ble_eq_true rfl, Nat.le_of_ble_eq_true rfl⟩
  · rw [mx286]
    exact ⟨Nat.le_of_ble_eq_true rfl, Nat.le_of_ble_eq_true rfl, Nat.le_of_ble_eq_true rfl, Nat.le_of_ble_eq_true rfl⟩
  · rw [mx170]
    rfl
  · rw [mx286]
    rfl
theorem op_restore (hL : L ≤ 3072) (hb : i + 6 ≤ L) (hn : n ≤ 512) (h : WW n X Y) (hz : ∀ X' Y', WW (n + 1) X' Y' → awi ET (lG L xs) 61 289 (1577, lL i w, [], 231, sl, mem X' Y') Z) : awi ET (lG L xs) 61 289 (1527, lL i w, [], 231, sl, mem X Y) Z := by
  refine op_run (q := 1527) (a := 1) (jT := 191) (jR := 194) (mT := 171) (mR := 287) (LT := [some (.ref 0), some (.int (xs (i + 1)))]) (LR := [some (.ref 199), some (.int (xs (i + 1))), none]) hL (by omega) (by omega) (by decide +kernel) pl13_191 pl13_194 (fun X Y => ?_) (fun X Y v => ?_) ?_ (fun v => ?_) rfl (fun v => rfl) ?_ (fun v => ?_) (s_restore rfl h) hz
  · show (decide (0 < 231) && decide (11 = ai_own ET 171)) = true
    rw [ow171]
    rfl
  · show (decide (199 < 231) && decide (12 = ai_own ET 287)) = true
    rw [ow287]
    rfl
  · rw [mx171]
    exact ⟨Nat.le_of_ble_eq_true rfl, Nat.le_of_ble_eq_true rfl, Nat.le_of_ble_eq_true rfl, Nat.le_of_ble_eq_true rfl⟩
  · rw [mx287]
    exact ⟨Nat.le_of_ble_eq_true rfl, Nat.le_of_ble_eq_true rfl, Nat.le_of_ble_eq_true rfl, Nat.le_of_ble_eq_true rfl⟩
  · rw [mx171]
    rfl
  · rw [mx287]
    rfl
theorem op_count (hL : L ≤ 3072) (hb : i + 6 ≤ L) (hn : n ≤ 512) (h : WW n X Y) (hz : ∀ X' Y', WW (n + 1) X' Y' → awi ET (lG L xs) 61 289 (1577, lL i w, [], 231, sl, mem X' Y') Z) : awi ET (lG L xs) 61 289 (1552, lL i w, [], 231, sl, mem X Y) Z := by
  refine op_run (q := 1552) (a := 1) (jT := 195) (jR := 198) (mT := 172) (mR := 288) (LT := [some (.ref 0), some (.int (xs (i + 1)))]) (LR := [some (.ref 199), some (.int (xs (i + 1)))]) hL (by omega) (by omega) (by decide +kernel) pl13_195 pl13_198 (fun X Y => ?_) (fun X Y v => ?_) ?_ (fun v => ?_) rfl (fun v => rfl) ?_ (fun v => ?_) (s_count h) hz
  · show (decide (0 < 231) && decide (11 = ai_own ET 172)) = true
    rw [ow172]
    rfl
  · show (decide (199 < 231) && decide (12 = ai_own ET 288)) = true
    rw [ow288]
    rfl
  · rw [mx172]
    exact ⟨Nat.le_of_ble_eq_true rfl, Nat.le_of_ble_eq_true rfl, Nat.le_of_ble_eq_true rfl, Nat.le_of_ble_eq_true rfl⟩
  · rw [mx288]
    exact ⟨Nat.le_of_ble_eq_true rfl, Nat.le_of_ble_eq_true rfl, Nat.le_of_ble_eq_true rfl, Nat.le_of_ble_eq_true rfl⟩
  · rw [mx172]
    rfl
  · rw [mx288]
    rfl
end LWC
