/-! ===== Text: a node ===== -/
/-- a node at a place: whether it fits, where the reading stands then, its numbers, its options -/
noncomputable def ndOk (T : TX) (p : Int) : Prop := let k := kIdx (tc T p); let p1 := sk T (p + 1)
  if k = 0 then vcOk T p1 ∧ nmOk T 99 (sk T (p1 + 1)) else if k = 1 then vcOk T p1 ∧ dgOk T 2 (sk T (p1 + 1)) ∧ dgOk T 4 (sk T (dgAt T 2 (sk T (p1 + 1)))) else if k = 2 then vcOk T p1
  else if k = 3 then dgOk T 5 p1 ∧ pmOk T (sk T (dgAt T 5 p1)) else if k = 4 then nmOk T 29 p1 else if k = 5 then dgOk T 5 p1 ∧ nmOk T 29 (sk T (dgAt T 5 p1)) else if k = 6 then (osR T 4 (p + 1)).1 else if k = 7 then dgOk T 9 p1 else False
noncomputable def ndAt (T : TX) (p : Int) : Int := let k := kIdx (tc T p); let p1 := sk T (p + 1)
  if k = 0 then pif (vcOk T p1) (nmAt T 99 (sk T (p1 + 1))) p1 else if k = 1 then pif (vcOk T p1) (pif (dgOk T 2 (sk T (p1 + 1))) (dgAt T 4 (sk T (dgAt T 2 (sk T (p1 + 1))))) (dgAt T 2 (sk T (p1 + 1)))) p1 else if k = 2 then pif (vcOk T p1) (p1 + 1) p1
  else if k = 3 then pif (dgOk T 5 p1) (pif (pmOk T (sk T (dgAt T 5 p1))) (sk T (dgAt T 5 p1) + 1) (sk T (dgAt T 5 p1))) (dgAt T 5 p1) else if k = 4 then nmAt T 29 p1 else if k = 5 then pif (dgOk T 5 p1) (nmAt T 29 (sk T (dgAt T 5 p1))) (dgAt T 5 p1) else if k = 6 then (osR T 4 (p + 1)).2.1 else if k = 7 then dgAt T 9 p1 else p
noncomputable def ndN (T : TX) (p : Int) : List Int := let k := kIdx (tc T p); let p1 := sk T (p + 1)
  if k = 0 then [tc T p1 - 97, nmV T (sk T (p1 + 1))] else if k = 1 then [tc T p1 - 97, tc T (sk T (p1 + 1)) - 48, tc T (sk T (dgAt T 2 (sk T (p1 + 1)))) - 48] else if k = 2 then [tc T p1 - 97]
  else if k = 3 then [tc T p1 - 48, if tc T (sk T (dgAt T 5 p1)) = 43 then 1 else 0] else if k = 4 then [nmV T p1] else if k = 5 then [tc T p1 - 48, nmV T (sk T (dgAt T 5 p1))] else if k = 6 then [] else if k = 7 then [tc T p1 - 48] else []
noncomputable def ndO (T : TX) (p : Int) : List (Int × Int × Int) := if kIdx (tc T p) = 6 then (osR T 4 (p + 1)).2.2 else []
def addNd (S : SC) (k : Int) (ns : List Int) (os : List (Int × Int × Int)) : SC := addOs (ns.foldl cAddNum (cAddNode S k)) os
theorem nd_k0 {T : TX} {p : Int} (h : kIdx (tc T p) = 0) : ndOk T p = (vcOk T (sk T (p + 1)) ∧ nmOk T 99 (sk T (sk T (p + 1) + 1))) ∧ ndAt T p = pif (vcOk T (sk T (p + 1))) (nmAt T 99 (sk T (sk T (p + 1) + 1))) (sk T (p + 1)) ∧ ndN T p = [tc T (sk T (p + 1)) - 97, nmV T (sk T (sk T (p + 1) + 1))] ∧ ndO T p = [] := by
  simp [ndOk, ndAt, ndN, ndO, h]
theorem nd_k1 {T : TX} {p : Int} (h : kIdx (tc T p) = 1) : ndOk T p = (vcOk T (sk T (p + 1)) ∧ dgOk T 2 (sk T (sk T (p + 1) + 1)) ∧ dgOk T 4 (sk T (dgAt T 2 (sk T (sk T (p + 1) + 1))))) ∧ ndAt T p = pif (vcOk T (sk T (p + 1))) (pif (dgOk T 2 (sk T (sk T (p + 1) + 1))) (dgAt T 4 (sk T (dgAt T 2 (sk T (sk T (p + 1) + 1))))) (dgAt T 2 (sk T (sk T (p + 1) + 1)))) (sk T (p + 1)) ∧ ndN T p = [tc T (sk T (p + 1)) - 97, tc T (sk T (sk T (p + 1) + 1)) - 48, tc T (sk T (dgAt T 2 (sk T (sk T (p + 1) + 1)))) - 48] ∧ ndO T p = [] := by
  simp [ndOk, ndAt, ndN, ndO, h]
theorem nd_k2 {T : TX} {p : Int} (h : kIdx (tc T p) = 2) : ndOk T p = vcOk T (sk T (p + 1)) ∧ ndAt T p = pif (vcOk T (sk T (p + 1))) (sk T (p + 1) + 1) (sk T (p + 1)) ∧ ndN T p = [tc T (sk T (p + 1)) - 97] ∧ ndO T p = [] := by
  simp [ndOk, ndAt, ndN, ndO, h]
theorem nd_k3 {T : TX} {p : Int} (h : kIdx (tc T p) = 3) : ndOk T p = (dgOk T 5 (sk T (p + 1)) ∧ pmOk T (sk T (dgAt T 5 (sk T (p + 1))))) ∧ ndAt T p = pif (dgOk T 5 (sk T (p + 1))) (pif (pmOk T (sk T (dgAt T 5 (sk T (p + 1))))) (sk T (dgAt T 5 (sk T (p + 1))) + 1) (sk T (dgAt T 5 (sk T (p + 1))))) (dgAt T 5 (sk T (p + 1))) ∧ ndN T p = [tc T (sk T (p + 1)) - 48, if tc T (sk T (dgAt T 5 (sk T (p + 1)))) = 43 then 1 else 0] ∧ ndO T p = [] := by
  simp [ndOk, ndAt, ndN, ndO, h]
theorem nd_k4 {T : TX} {p : Int} (h : kIdx (tc T p) = 4) : ndOk T p = nmOk T 29 (sk T (p + 1)) ∧ ndAt T p = nmAt T 29 (sk T (p + 1)) ∧ ndN T p = [nmV T (sk T (p + 1))] ∧ ndO T p = [] := by
  simp [ndOk, ndAt, ndN, ndO, h]
theorem nd_k5 {T : TX} {p : Int} (h : kIdx (tc T p) = 5) : ndOk T p = (dgOk T 5 (sk T (p + 1)) ∧ nmOk T 29 (sk T (dgAt T 5 (sk T (p + 1))))) ∧ ndAt T p = pif (dgOk T 5 (sk T (p + 1))) (nmAt T 29 (sk T (dgAt T 5 (sk T (p + 1))))) (dgAt T 5 (sk T (p + 1))) ∧ ndN T p = [tc T (sk T (p + 1)) - 48, nmV T (sk T (dgAt T 5 (sk T (p + 1))))] ∧ ndO T p = [] := by
  simp [ndOk, ndAt, ndN, ndO, h]
theorem nd_k6 {T : TX} {p : Int} (h : kIdx (tc T p) = 6) : ndOk T p = (osR T 4 (p + 1)).1 ∧ ndAt T p = (osR T 4 (p + 1)).2.1 ∧ ndN T p = [] ∧ ndO T p = (osR T 4 (p + 1)).2.2 := by
  simp [ndOk, ndAt, ndN, ndO, h]
theorem nd_k7 {T : TX} {p : Int} (h : kIdx (tc T p) = 7) : ndOk T p = dgOk T 9 (sk T (p + 1)) ∧ ndAt T p = dgAt T 9 (sk T (p + 1)) ∧ ndN T p = [tc T (sk T (p + 1)) - 48] ∧ ndO T p = [] := by
  simp [ndOk, ndAt, ndN, ndO, h]
theorem nd_no {T : TX} {p : Int} (h : kIdx (tc T p) = -1) : ndOk T p = False ∧ ndAt T p = p := by
  simp [ndOk, ndAt, h]
