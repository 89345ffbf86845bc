/-! ===== the chart of all plays, as functions ===== -/
abbrev FN : Type := Int → Int
/-- reached; choices: how many, situation, parent, option, depth; ends: whether, parent, option -/
abbrev CH : Type := FN × Int × FN × FN × FN × FN × FN × FN × FN
def m0 (fl : Int) : MO := (0, fl, fun _ => 0, fun _ => 0)
noncomputable def cn (S : SC) (fl v : Int) : Int := (cCome S (m0 fl) v).1
noncomputable def cfl (S : SC) (fl v : Int) : Int := (cCome S (m0 fl) v).2.1
theorem cDo_fl {S : SC} {m m' : MO} {v : Int} (h : m.2.1 = m'.2.1) : (cDo S m v).2 = (cDo S m' v).2 ∧ (cDo S m v).1.2.1 = (cDo S m' v).1.2.1 := by
  have hp : ∀ (m : MO) (p v f : Int), (putM m p v f).2.1 = m.2.1 := fun m p v f => by
    unfold putM; split <;> rfl
  unfold cDo
  by_cases c1 : cKind S v = 1
  · rw [if_pos c1, if_pos c1]; exact ⟨rfl, (hp _ _ _ _).trans (h.trans (hp _ _ _ _).symm)⟩
  · rw [if_neg c1, if_neg c1]
    by_cases c2 : cKind S v = 2
    · rw [if_pos c2, if_pos c2]; exact ⟨rfl, h⟩
    · rw [if_neg c2, if_neg c2]
      by_cases c3 : cKind S v = 3
      · rw [if_pos c3, if_pos c3, h]; exact ⟨rfl, rfl⟩
      · rw [if_neg c3, if_neg c3]
        by_cases c4 : cKind S v = 4
        · rw [if_pos c4, if_pos c4]; exact ⟨rfl, h⟩
        · rw [if_neg c4, if_neg c4]
          by_cases c5 : cKind S v = 5
          · rw [if_pos c5, if_pos c5, h]; exact ⟨rfl, rfl⟩
          · rw [if_neg c5, if_neg c5]; exact ⟨rfl, h⟩
theorem cIt_fl {S : SC} : ∀ (n : Nat) {m m' : MO} {v : Int}, m.2.1 = m'.2.1 → (cIt S n (m, v)).2 = (cIt S n (m', v)).2 ∧ (cIt S n (m, v)).1.2.1 = (cIt S n (m', v)).1.2.1 := by
  intro n
  induction n with
  | zero => intro m m' v h; exact ⟨rfl, h⟩
  | succ n ih =>
    intro m m' v h
    by_cases c : cShown S v
    · rw [show cIt S (n + 1) (m, v) = _ from pif_t c, show cIt S (n + 1) (m', v) = _ from pif_t c]; exact ⟨rfl, h⟩
    · rw [show cIt S (n + 1) (m, v) = _ from pif_f c, show cIt S (n + 1) (m', v) = _ from pif_f c]
      obtain ⟨a, b⟩ := cDo_fl (S := S) (v := v) h
      have := ih (v := (cDo S m v).2) b
      rw [show cDo S (m', v).1 (m', v).2 = ((cDo S m' v).1, (cDo S m v).2) by rw [a]]
      exact this
theorem cCome_fl {S : SC} (m : MO) (v : Int) : (cCome S m v).1 = cn S m.2.1 v ∧ (cCome S m v).2.1 = cfl S m.2.1 v := by
  obtain ⟨a, b⟩ := cIt_fl (S := S) 60 (m := m) (m' := m0 m.2.1) (v := v) rfl
  refine ⟨?_, b⟩
  show pif (cShown S (cIt S 60 (m, v)).2) (cIt S 60 (m, v)).2 30 = pif (cShown S (cIt S 60 (m0 m.2.1, v)).2) (cIt S 60 (m0 m.2.1, v)).2 30
  rw [a]
def sit (nd fl : Int) : Int := 64 * nd + fl
/-- a situation is marked -/
noncomputable def mk (S : SC) (X : CH) (nd fl pa op : Int) : CH :=
  if cSK S nd = 1 then (fset X.1 (sit nd fl) 1, X.2.1 + 1, fset X.2.2.1 X.2.1 (sit nd fl), fset X.2.2.2.1 X.2.1 pa, fset X.2.2.2.2.1 X.2.1 op, fset X.2.2.2.2.2.1 X.2.1 (if pa = -11 then 0 else X.2.2.2.2.2.1 pa + 1), X.2.2.2.2.2.2)
  else if cSK S nd = 2 then (if X.2.2.2.2.2.2.1 (3 + cSN S nd) = 0 then (fset X.1 (sit nd fl) 1, X.2.1, X.2.2.1, X.2.2.2.1, X.2.2.2.2.1, X.2.2.2.2.2.1, fset X.2.2.2.2.2.2.1 (3 + cSN S nd) 1, fset X.2.2.2.2.2.2.2.1 (3 + cSN S nd) pa, fset X.2.2.2.2.2.2.2.2 (3 + cSN S nd) op) else (fset X.1 (sit nd fl) 1, X.2))
  else (fset X.1 (sit nd fl) 1, X.2)
theorem mk_R {S : SC} {X : CH} {nd fl pa op : Int} : (mk S X nd fl pa op).1 = fset X.1 (sit nd fl) 1 := by
  unfold mk; (repeat' split) <;> rfl
noncomputable def fol (S : SC) : Nat → CH → Int → Int → Int → Int → CH
  | 0, X, _, _, _, _ => X
  | k + 1, X, nd, fl, pa, op => if X.1 (sit nd fl) = 1 then X else if cSK S nd = 0 then fol S k (mk S X nd fl pa op) (cn S fl (nd + 1)) (cfl S fl (nd + 1)) pa op else mk S X nd fl pa op
noncomputable def fo (S : SC) (X : CH) (fl v pa op : Int) : CH := fol S 1985 X (cn S fl v) (cfl S fl v) pa op
noncomputable def inn (S : SC) (X : CH) (i nd fl : Int) : Nat → CH
  | 0 => X
  | j + 1 => pif (cOpen S nd j fl) (fo S (inn S X i nd fl j) fl (cPart S nd j 0) i j) (inn S X i nd fl j)
def z0 : FN := fun _ => 0
noncomputable def ch0 (S : SC) : CH := fo S (z0, 0, z0, z0, z0, z0, z0, z0, z0) 0 0 (-11) (-11)
noncomputable def outc (S : SC) : Nat → CH
  | 0 => ch0 S
  | i + 1 => if (i : Int) < (outc S i).2.1 then inn S (outc S i) i ((outc S i).2.2.1 i / 64) ((outc S i).2.2.1 i % 64) 4 else outc S i
noncomputable def drawn (S : SC) : CH := outc S 1984
theorem outc_more {S : SC} {i : Nat} (h : ¬ (i : Int) < (outc S i).2.1) : ∀ j : Nat, i ≤ j → outc S j = outc S i := by
  intro j hj
  induction j with
  | zero => have : i = 0 := by omega
            rw [this]
  | succ j ih =>
    by_cases e : i = j + 1
    · rw [e]
    · have e2 := ih (by omega)
      rw [show outc S (j + 1) = outc S j from if_neg (by rw [e2]; omega), e2]
theorem inn_more {S : SC} {X : CH} {i nd fl : Int} {k : Nat} (h : ∀ j : Nat, k ≤ j → ¬ cOpen S nd j fl) : ∀ n : Nat, k ≤ n → inn S X i nd fl n = inn S X i nd fl k := by
  intro n hn
  induction n with
  | zero => have : k = 0 := by omega
            rw [this]
  | succ n ih =>
    by_cases e : k = n + 1
    · rw [e]
    · rw [show inn S X i nd fl (n + 1) = inn S X i nd fl n from pif_f (h n (by omega))]; exact ih (by omega)
/-- counting what is reached -/
theorem cntN_off {f : FN} {s v : Int} : ∀ n : Nat, (n : Int) ≤ s → cntN (fset f s v) n = cntN f n := by
  intro n
  induction n with
  | zero => intro _; rfl
  | succ n ih =>
    intro h
    show (if fset f s v n = 0 then cntN (fset f s v) n else cntN (fset f s v) n + 1) = (if f n = 0 then cntN f n else cntN f n + 1)
    rw [fs_off (by omega), ih (by omega)]
theorem cntN_set {f : FN} {s : Int} (h0 : 0 ≤ s) (hf : f s = 0) : ∀ n : Nat, s < n → cntN (fset f s 1) n = cntN f n + 1 := by
  intro n
  induction n with
  | zero => intro h; omega
  | succ n ih =>
    intro h
    show (if fset f s 1 n = 0 then cntN (fset f s 1) n else cntN (fset f s 1) n + 1) = (if f n = 0 then cntN f n else cntN f n + 1) + 1
    by_cases e : (n : Int) = s
    · rw [fs_at e, if_neg (by decide), cntN_off n (by omega), if_pos (by rw [e]; exact hf)]
    · rw [fs_off e, ih (by omega)]
      split <;> omega
theorem cntN_full {f : FN} : ∀ n : Nat, cntN f n = n → ∀ s : Int, 0 ≤ s → s < n → f s ≠ 0 := by
  intro n
  induction n with
  | zero => intro _ s h0 h1; omega
  | succ n ih =>
    intro h s h0 h1
    have hl := (cntN_le f n).2
    have h : (if f n = 0 then cntN f n else cntN f n + 1) = ((n + 1 : Nat) : Int) := h
    by_cases c : f n = 0
    · rw [if_pos c] at h; omega
    · rw [if_neg c] at h
      by_cases e : s = n
      · rw [e]; exact c
      · exact ih (by omega) s h0 (by omega)
