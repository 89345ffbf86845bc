/-! ===== the chart in the reference's rows: a situation is marked ===== -/
theorem mk1 {S : SC} {X : CH} {nd fl pa op : Int} (h : cSK S nd = 1) : mk S X nd fl pa op = (fset X.1 (sit nd fl) 1, X.2.1 + 1, fset X.2.2.1 X.2.1 (sit nd fl), fset X.2.2.2.1 X.2.1 pa, fset X.2.2.2.2.1 X.2.1 op, fset X.2.2.2.2.2.1 X.2.1 (if pa = -11 then 0 else X.2.2.2.2.2.1 pa + 1), X.2.2.2.2.2.2) := if_pos h
theorem mk2 {S : SC} {X : CH} {nd fl pa op : Int} (h : cSK S nd = 2) (e : X.2.2.2.2.2.2.1 (3 + cSN S nd) = 0) : mk S X nd fl pa op = (fset X.1 (sit nd fl) 1, X.2.1, X.2.2.1, X.2.2.2.1, X.2.2.2.2.1, X.2.2.2.2.2.1, fset X.2.2.2.2.2.2.1 (3 + cSN S nd) 1, fset X.2.2.2.2.2.2.2.1 (3 + cSN S nd) pa, fset X.2.2.2.2.2.2.2.2 (3 + cSN S nd) op) := (if_neg (by omega)).trans ((if_pos h).trans (if_pos e))
theorem mk2n {S : SC} {X : CH} {nd fl pa op : Int} (h : cSK S nd = 2) (e : X.2.2.2.2.2.2.1 (3 + cSN S nd) ≠ 0) : mk S X nd fl pa op = (fset X.1 (sit nd fl) 1, X.2) := (if_neg (by omega)).trans ((if_pos h).trans (if_neg e))
theorem mk0 {S : SC} {X : CH} {nd fl pa op : Int} (h : cSK S nd = 0) : mk S X nd fl pa op = (fset X.1 (sit nd fl) 1, X.2) := (if_neg (by omega)).trans (if_neg (by omega))
theorem fs_eq {f g : FN} {i v j : Int} (h : f j = g j) : fset f i v j = fset g i v j := by
  by_cases e : j = i
  · rw [fs_at e, fs_at e]
  · rw [fs_off e, fs_off e]; exact h
theorem cR_push {S : SC} {X : CH} {nd fl pa op n : Int} {Re Ch Fm By Ie Ef Eb : FN} (h : cR X n Re Ch Fm By Ie Ef Eb) (k : cSK S nd = 1) : cR (mk S X nd fl pa op) (n + 1) (fset Re (sit nd fl) 1) (fset Ch n (sit nd fl)) (fset Fm n pa) (fset By n op) Ie Ef Eb := by
  obtain ⟨rfl, a, b, c⟩ := h
  rw [mk1 k]
  refine ⟨rfl, fun s s0 s1 => fs_eq (a s s0 s1), fun j j0 j1 => ?_, c⟩
  have j1 : j < X.2.1 + 1 := j1
  show fset _ _ _ j = fset _ _ _ j ∧ fset _ _ _ j = fset _ _ _ j ∧ fset _ _ _ j = fset _ _ _ j
  by_cases e : j = X.2.1
  · rw [fs_at e, fs_at e, fs_at e, fs_at e, fs_at e, fs_at e]; exact ⟨rfl, rfl, rfl⟩
  · rw [fs_off e, fs_off e, fs_off e, fs_off e, fs_off e, fs_off e]; exact b j j0 (by omega)
theorem cR_end {S : SC} {X : CH} {nd fl pa op n : Int} {Re Ch Fm By Ie Ef Eb : FN} (h : cR X n Re Ch Fm By Ie Ef Eb) (k : cSK S nd = 2) (e : X.2.2.2.2.2.2.1 (3 + cSN S nd) = 0) : cR (mk S X nd fl pa op) n (fset Re (sit nd fl) 1) Ch Fm By (fset Ie (3 + cSN S nd) 1) (fset Ef (3 + cSN S nd) pa) (fset Eb (3 + cSN S nd) op) := by
  obtain ⟨rfl, a, b, c⟩ := h
  rw [mk2 k e]
  refine ⟨rfl, fun s s0 s1 => fs_eq (a s s0 s1), b, fun j j0 j1 => ?_⟩
  obtain ⟨c1, c2⟩ := c j j0 j1
  refine ⟨fs_eq c1, fun z => ?_⟩
  have z : fset X.2.2.2.2.2.2.1 (3 + cSN S nd) 1 j = 1 := z
  show fset _ _ _ j = fset _ _ _ j ∧ fset _ _ _ j = fset _ _ _ j
  by_cases q : j = 3 + cSN S nd
  · rw [fs_at q, fs_at q, fs_at q, fs_at q]; exact ⟨rfl, rfl⟩
  · rw [fs_off q] at z
    rw [fs_off q, fs_off q, fs_off q, fs_off q]; exact c2 z
theorem cR_mark {X : CH} {s n : Int} {Re Ch Fm By Ie Ef Eb : FN} (h : cR X n Re Ch Fm By Ie Ef Eb) : cR (fset X.1 s 1, X.2) n (fset Re s 1) Ch Fm By Ie Ef Eb := by
  obtain ⟨rfl, a, b, c⟩ := h
  exact ⟨rfl, fun t s0 s1 => fs_eq (a t s0 s1), b, c⟩
theorem fol_done {S : SC} {k : Nat} {X : CH} {nd fl pa op : Int} (h : X.1 (sit nd fl) = 1) : fol S k X nd fl pa op = X := by
  cases k with
  | zero => rfl
  | succ k => exact if_pos h
theorem fol_stop {S : SC} {k : Nat} {X : CH} {nd fl pa op : Int} (h : X.1 (sit nd fl) = 0) (hk : cSK S nd ≠ 0) : fol S (k + 1) X nd fl pa op = mk S X nd fl pa op := (if_neg (by omega)).trans (if_neg hk)
theorem fol_line {S : SC} {k : Nat} {X : CH} {nd fl pa op : Int} (h : X.1 (sit nd fl) = 0) (hk : cSK S nd = 0) : fol S (k + 1) X nd fl pa op = fol S k (mk S X nd fl pa op) (cn S fl (nd + 1)) (cfl S fl (nd + 1)) pa op := (if_neg (by omega)).trans (if_pos hk)
