/-! ===== the reference: the play starts, goes on ===== -/
theorem scr_empty {m : MO} {V F : Int → Int} (hv : ∀ k : Int, 0 ≤ k → k < 3 → V k = -11 ∧ F k = -11) : scrR (emptyM m) 0 V F := ⟨rfl, by omega, fun k h0 h1 => by
  obtain ⟨a, b⟩ := hv k h0 h1
  exact ⟨(fillN_in (-11) _ 3 k h0 (by omega)).trans a.symm, (fillN_in (-11) _ 3 k h0 (by omega)).trans (if_pos a).symm⟩⟩
