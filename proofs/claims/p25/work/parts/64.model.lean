/-! ===== the reference: ways; counts ===== -/
noncomputable def coRR (S : SC) (P : PL) (T : TX) (w : Int) : Int := if w = 0 then S.1 else if w = 1 then P.2.1 + 1 else if w = 2 then P.1 - P.2.1 - 1 else if w = 3 then cntN P.2.2.2.2.2.1 31 else if w = 4 then cntN P.2.2.2.2.1 3 else if w = 5 then enRR S else if w = 6 then T.1 else -12
