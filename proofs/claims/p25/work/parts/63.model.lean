/-! ===== the reference as a whole: its chart's answers ===== -/
noncomputable def siRR (S : SC) (v : Int) : Int := if -1 ≤ v ∧ v ≤ 30 then cntW (drawn S).1 v 1984 else -12
noncomputable def ctRR (S : SC) (e : Int) : Int := pif (isE e) (stR (drawn S) e) (-12)
noncomputable def wtRR (S : SC) (e i : Int) : Int := pif (isE e ∧ 0 ≤ i) (if stR (drawn S) e = -11 ∨ stR (drawn S) e ≤ i then -11 else stepW (drawn S) (stR (drawn S) e - 1 - i).toNat ((drawn S).2.2.2.2.2.2.2.2 (3 + e)) ((drawn S).2.2.2.2.2.2.2.1 (3 + e))) (-12)
noncomputable def usRR (S : SC) (v o : Int) : Int := if cKind S v = 6 ∧ 0 ≤ o ∧ o < cOpts S v then bi (usR S (drawn S) v o) else -12
noncomputable def enRR (S : SC) : Int := cntN (drawn S).2.2.2.2.2.2.1 13
