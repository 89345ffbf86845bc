/-! ===== the reference: nodes are carried out ===== -/
theorem rSK_ne {S : SC} {v : Int} (h : rSK S v ≠ -11) : cShown S v := Classical.byContradiction fun z => h (pif_f z)
theorem rSK_no {S : SC} {v : Int} (h : rSK S v = -11) : ¬ cShown S v := fun z => by
  rw [show rSK S v = _ from pif_t z] at h
  unfold cSK at h
  (repeat' split at h) <;> omega
theorem not_shown {S : SC} {B : Int → Int} {v : Int} (hB : rScr B S) (h0 : 0 ≤ v) (h : ¬ cShown S v) : v < S.1 ∧ 1 ≤ cKind S v ∧ cKind S v ≤ 5 := by
  unfold cShown at h
  have h1 : v < S.1 := Classical.byContradiction fun z => h (Or.inl (cK_out (by omega)))
  have g := (hB.2 v h0 h1).kr
  exact ⟨h1, by omega, by omega⟩
theorem cDo1 {S : SC} {m : MO} {v : Int} (h : cKind S v = 1) : cDo S m v = (putM m (cNum S v 1) (cNum S v 0) (cNum S v 2), v + 1) := if_pos h
theorem cDo2 {S : SC} {m : MO} {v : Int} (h : cKind S v = 2) : cDo S m v = (hideM m (cNum S v 0), v + 1) := (if_neg (by omega)).trans (if_pos h)
theorem cDo3 {S : SC} {m : MO} {v : Int} (h : cKind S v = 3) : cDo S m v = ((m.1, (if cNum S v 1 = 1 then bOr m.2.1 (bShl 1 (cNum S v 0)) else bAnd m.2.1 (bXor (bShl 1 (cNum S v 0)) (-1))), m.2.2), v + 1) := (if_neg (by omega)).trans ((if_neg (by omega)).trans (if_pos h))
theorem cDo4 {S : SC} {m : MO} {v : Int} (h : cKind S v = 4) : cDo S m v = (m, cNum S v 0) := (if_neg (by omega)).trans ((if_neg (by omega)).trans ((if_neg (by omega)).trans (if_pos h)))
theorem cDo5 {S : SC} {m : MO} {v : Int} (h : cKind S v = 5) : cDo S m v = (m, pif (fon m.2.1 (cNum S v 0)) (cNum S v 1) (v + 1)) := (if_neg (by omega)).trans ((if_neg (by omega)).trans ((if_neg (by omega)).trans ((if_neg (by omega)).trans (if_pos h))))
theorem cDo_rng {S : SC} {B : Int → Int} {v : Int} {m : MO} (hB : rScr B S) (h0 : 0 ≤ v) (h : ¬ cShown S v) : 0 ≤ (cDo S m v).2 ∧ (cDo S m v).2 ≤ 29 := by
  obtain ⟨h1, h2, h3⟩ := not_shown hB h0 h
  have g := hB.2 v h0 h1
  have hB1 := hB.1
  rcases (by omega : cKind S v = 1 ∨ cKind S v = 2 ∨ cKind S v = 3 ∨ cKind S v = 4 ∨ cKind S v = 5) with z | z | z | z | z
  · rw [cDo1 z]; exact ⟨by show 0 ≤ v + 1; omega, by show v + 1 ≤ 29; omega⟩
  · rw [cDo2 z]; exact ⟨by show 0 ≤ v + 1; omega, by show v + 1 ≤ 29; omega⟩
  · rw [cDo3 z]; exact ⟨by show 0 ≤ v + 1; omega, by show v + 1 ≤ 29; omega⟩
  · rw [cDo4 z]; exact g.r4 z
  · rw [cDo5 z]
    have r := g.r5 z
    by_cases c : fon m.2.1 (cNum S v 0)
    · rw [pif_t c]; exact r.2
    · rw [pif_f c]; exact ⟨by show 0 ≤ v + 1; omega, by show v + 1 ≤ 29; omega⟩
theorem cIt_rng {S : SC} {B : Int → Int} (hB : rScr B S) : ∀ (n : Nat) (m : MO) (v : Int), 0 ≤ v → v ≤ 30 → 0 ≤ (cIt S n (m, v)).2 ∧ (cIt S n (m, v)).2 ≤ 30 := by
  intro n
  induction n with
  | zero => intro m v h0 h1; exact ⟨h0, h1⟩
  | succ n ih =>
    intro m v h0 h1
    by_cases c : cShown S v
    · rw [show cIt S (n + 1) (m, v) = _ from pif_t c]; exact ⟨h0, h1⟩
    · rw [show cIt S (n + 1) (m, v) = _ from pif_f c]
      have := cDo_rng (m := m) hB h0 c
      exact ih _ _ this.1 (Int.le_trans this.2 (by decide))
theorem cCome_rng {S : SC} {B : Int → Int} (hB : rScr B S) (m : MO) {v : Int} (h0 : 0 ≤ v) (h1 : v ≤ 30) : (0 ≤ (cCome S m v).1 ∧ (cCome S m v).1 ≤ 30) ∧ cShown S (cCome S m v).1 := by
  have r := cIt_rng hB 60 m v h0 h1
  rw [show (cCome S m v).1 = pif (cShown S (cIt S 60 (m, v)).2) (cIt S 60 (m, v)).2 30 from rfl]
  by_cases c : cShown S (cIt S 60 (m, v)).2
  · rw [pif_t c]; exact ⟨r, c⟩
  · rw [pif_f c]; exact ⟨by omega, Or.inl (cK_out (by have := hB.1; omega))⟩
