/-! ===== the reference: begin, go, choose, back, again ===== -/
def nowM (P : PL) : MO := P.2.2.2.1 P.2.1
theorem plR_now {S : SC} {P : PL} {fi co ah se : Int} {Mo Sv Iv : Int → Int} (h : plR S P fi co ah se Mo Sv Iv) : (rowM Mo (8 * ((fi + (co - 1)) % 20)) (nowM P) ∧ moOk S (nowM P) ∧ P.2.2.2.2.2.1 (nowM P).1 = 1) ∧ (0 ≤ fi ∧ fi < 20) ∧ 1 ≤ co ∧ co ≤ 20 := by
  obtain ⟨⟨a, b, c, d⟩, ⟨e, f⟩, g, -⟩ := h
  have := g P.2.1 b c
  rw [show fi + P.2.1 = fi + (co - 1) by omega] at this
  exact ⟨this, a, by omega, by omega⟩
theorem row0 {Mo : Int → Int} {p : Int} {m : MO} (h : rowM Mo p m) : Mo (p + 0) = m.1 := (congrArg Mo (Int.add_zero p)).trans h.1
theorem sk_shown {S : SC} {m : MO} (h : moOk S m) : rSK S m.1 = cSK S m.1 := pif_t h.2.2.1
theorem sk_line {S : SC} {v : Int} (h : cSK S v = 0) : cKind S v = 0 := by
  unfold cSK at h; (repeat' split at h) <;> omega
theorem sk_choice {S : SC} {v : Int} (h : cSK S v = 1) : cKind S v = 6 := by
  unfold cSK at h; (repeat' split at h) <;> omega
theorem kd_lt {S : SC} {v : Int} (h : cKind S v ≠ -1) : 0 ≤ v ∧ v < S.1 ∧ v < 29 := Classical.byContradiction fun z => h (if_neg z)
noncomputable def goPP (S : SC) (P : PL) : PL := if cSK S (nowM P).1 = 0 then goP S P ((nowM P).1 + 1) else P
noncomputable def goRR (S : SC) (P : PL) : Int := if cSK S (nowM P).1 = 0 then (goM S P ((nowM P).1 + 1)).1 else -13
noncomputable def chPP (S : SC) (P : PL) (o : Int) : PL := pif (cOpen S (nowM P).1 o (nowM P).2.1) (goP S P (cPart S (nowM P).1 o 0)) P
noncomputable def chRR (S : SC) (P : PL) (o : Int) : Int := if o < 0 then -12 else pif (cOpen S (nowM P).1 o (nowM P).2.1) (goM S P (cPart S (nowM P).1 o 0)).1 (-13)
def bkPP (P : PL) (t : Int) : PL := if 1 ≤ t ∧ t ≤ 20 ∧ t ≤ P.2.1 then (P.1, P.2.1 - t, P.2.2) else P
def bkRR (P : PL) (t : Int) : Int := if 1 ≤ t ∧ t ≤ 20 then (if t ≤ P.2.1 then (P.2.2.2.1 (P.2.1 - t)).1 else -13) else -12
def agPP (P : PL) : PL := if P.2.1 + 1 < P.1 then (P.1, P.2.1 + 1, P.2.2) else P
def agRR (P : PL) : Int := if P.2.1 + 1 < P.1 then (P.2.2.2.1 (P.2.1 + 1)).1 else -13
