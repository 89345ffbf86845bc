/-! ===== the reference: its object; its parser's tokens ===== -/
/-- the reference's object: nodes, reads, first, count, ahead, seen, textLength, at, fault, flags, choices, hash -/
abbrev mobj (q : Nat) (n rd fi co ah se tl ps fa fl ch : Int) (hx : Int64) : AC := kO 6 [vR (q + 1), vI n, vR (q + 2), vI rd, vR (q + 3), vI fi, vI co, vI ah, vR (q + 4), vR (q + 5), vI se, vR (q + 6), vI tl, vI ps, vI fa, vI fl, vR (q + 7), vR (q + 8), vR (q + 9), vR (q + 10), vR (q + 11), vR (q + 12), vI ch, vR (q + 13), vR (q + 14), vR (q + 15), vL hx]
