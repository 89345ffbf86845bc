/-! ===== the reference: its digest ===== -/
theorem cO_rng {S : SC} {B : Int → Int} {v : Int} (hB : rScr B S) (h0 : 0 ≤ v) (h1 : v < S.1) : 0 ≤ cOpts S v ∧ cOpts S v ≤ 4 := by
  have g := hB.2 v h0 h1
  by_cases c : cKind S v = 6
  · exact (g.r6 c).2.1
  · rw [g.ro c]; decide
