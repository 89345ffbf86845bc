/-! ===== the reference: choose, save, restore ===== -/
theorem rowM_shift {Mo Sv : Int → Int} {p r : Int} {m : MO} (h : rowM Mo p m) (e : ∀ x : Int, 0 ≤ x → x < 8 → Sv (r + x) = Mo (p + x)) : rowM Sv r m := by
  have e0 := e 0 (by omega) (by omega)
  rw [Int.add_zero, Int.add_zero] at e0
  refine ⟨e0.trans h.1, (e 1 (by omega) (by omega)).trans h.2.1, fun k k0 k1 => ?_⟩
  obtain ⟨a, b⟩ := h.2.2 k k0 k1
  rw [Int.add_assoc] at a b
  rw [Int.add_assoc, Int.add_assoc]
  exact ⟨(e _ (by omega) (by omega)).trans a, (e _ (by omega) (by omega)).trans b⟩
theorem cOpts0 {S : SC} {B : Int → Int} {v : Int} (hB : rScr B S) (h0 : 0 ≤ v) (h : cKind S v ≠ 6) : cOpts S v = 0 := by
  by_cases c : v < S.1
  · exact (hB.2 v h0 c).ro h
  · exact if_neg (by omega)
def svPP (P : PL) (i : Int) : PL := if 0 ≤ i ∧ i < 3 then keepP P i else P
def svRR (P : PL) (i : Int) : Int := if 0 ≤ i ∧ i < 3 then (nowM P).1 else -12
def rsPP (P : PL) (i : Int) : PL := if 0 ≤ i ∧ i < 3 ∧ P.2.2.2.2.1 i = 1 then takeP P i else P
def rsRR (P : PL) (i : Int) : Int := if 0 ≤ i ∧ i < 3 then (if P.2.2.2.2.1 i = 1 then (P.2.2.2.2.2.2 i).1 else -13) else -12
