/-! ===== the reference: restore, skip ===== -/
theorem goP_now {S : SC} {P : PL} {v : Int} (h0 : 0 ≤ (goM S P v).1) (h1 : (goM S P v).1 ≤ 30) : nowM (goP S P v) = goM S P v := by
  by_cases c : P.2.1 + 1 < 20
  · have e : goP S P v = _ := (if_pos c).trans (if_pos ⟨h0, Int.lt_of_le_of_lt h1 (by decide)⟩)
    rw [e]; exact mset_s _ _ _
  · have e : goP S P v = _ := (if_neg c).trans (if_pos ⟨h0, Int.lt_of_le_of_lt h1 (by decide)⟩)
    rw [e]; exact mset_s _ _ _
noncomputable def skN2 (S : SC) : Nat → PL → Int → PL × Int
  | 0, P, n => (P, n)
  | k + 1, P, n => if cSK S (nowM P).1 = 0 then (if seenB P (goM S P ((nowM P).1 + 1)).1 = 1 then skN2 S k (goP S P ((nowM P).1 + 1)) (n + 1) else (goP S P ((nowM P).1 + 1), n + 1)) else (P, n)
theorem skN2_nl {S : SC} {k : Nat} {P : PL} {n : Int} (h : cSK S (nowM P).1 ≠ 0) : skN2 S k P n = (P, n) := by
  cases k with
  | zero => rfl
  | succ k => exact if_neg h
noncomputable def skPP (S : SC) (P : PL) : PL := if cSK S (nowM P).1 = 0 then (skN2 S 60 P 0).1 else P
noncomputable def skRR (S : SC) (P : PL) : Int := if cSK S (nowM P).1 = 0 then (skN2 S 60 P 0).2 else -13
