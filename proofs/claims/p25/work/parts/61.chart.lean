/-! ===== the chart: every reached choice is waiting; there is no end -1; counts ===== -/
def chJ (S : SC) (X : CH) : Prop := (∀ s : Int, 0 ≤ s → s < 1984 → X.1 s = 1 → cSK S (s / 64) = 1 → ∃ k : Int, (0 ≤ k ∧ k < X.2.1) ∧ X.2.2.1 k = s) ∧ X.2.2.2.2.2.2.1 2 = 0
theorem chJ_0 (S : SC) : chJ S (z0, 0, z0, z0, z0, z0, z0, z0, z0) := ⟨fun s _ _ z => by
  have z : (0 : Int) = 1 := z
  omega, rfl⟩
theorem chJ_mk {S : SC} {B : FN} {X : CH} {nd fl pa op : Int} (hB : rScr B S) (h : chJ S X) (hn : 0 ≤ X.2.1) (f0 : 0 ≤ fl) (f1 : fl ≤ 63) (hs : cShown S nd) : chJ S (mk S X nd fl pa op) := by
  obtain ⟨a, b⟩ := h
  have nosit : cSK S nd ≠ 1 → ∀ s : Int, 0 ≤ s → s < 1984 → fset X.1 (sit nd fl) 1 s = 1 → cSK S (s / 64) = 1 → ∃ k : Int, (0 ≤ k ∧ k < X.2.1) ∧ X.2.2.1 k = s := fun z s s0 s1 e k => by
    by_cases q : s = sit nd fl
    · exact absurd k (by rw [q]; unfold sit; rw [show (64 * nd + fl) / 64 = nd by omega]; exact z)
    · rw [fs_off q] at e; exact a s s0 s1 e k
  by_cases k1 : cSK S nd = 1
  · rw [mk1 k1]
    refine ⟨fun s s0 s1 e k => ?_, b⟩
    have e : fset X.1 (sit nd fl) 1 s = 1 := e
    show ∃ k : Int, (0 ≤ k ∧ k < X.2.1 + 1) ∧ fset X.2.2.1 X.2.1 (sit nd fl) k = s
    by_cases q : s = sit nd fl
    · exact ⟨X.2.1, ⟨hn, by omega⟩, (fs_at rfl).trans q.symm⟩
    · rw [fs_off q] at e
      obtain ⟨t, t1, t2⟩ := a s s0 s1 e k
      exact ⟨t, ⟨t1.1, by omega⟩, (fs_off (by omega)).trans t2⟩
  · by_cases k2 : cSK S nd = 2
    · by_cases k3 : X.2.2.2.2.2.2.1 (3 + cSN S nd) = 0
      · rw [mk2 k2 k3]
        have r := cSN_rng hB k2 hs
        exact ⟨nosit k1, (fs_off (by omega)).trans b⟩
      · rw [mk2n k2 k3]; exact ⟨nosit k1, b⟩
    · rw [show mk S X nd fl pa op = (fset X.1 (sit nd fl) 1, X.2) from (if_neg k1).trans (if_neg k2)]; exact ⟨nosit k1, b⟩
theorem chJ_fol {S : SC} {B : FN} (hB : rScr B S) {pa op : Int} : ∀ (k : Nat) {X : CH} {nd fl : Int}, chI S X → chJ S X → 0 ≤ nd → nd ≤ 30 → cShown S nd → 0 ≤ fl → fl ≤ 63 → (pa = -11 ∨ (0 ≤ pa ∧ pa < X.2.1)) → chJ S (fol S k X nd fl pa op) := by
  intro k
  induction k with
  | zero => intro X nd fl _ h _ _ _ _ _ _; exact h
  | succ k ih =>
    intro X nd fl hI h n0 n1 hs f0 f1 hp
    have hst : 0 ≤ sit nd fl ∧ sit nd fl < 1984 := by unfold sit; omega
    have hr := hI.2.1 _ hst.1 hst.2
    by_cases c : X.1 (sit nd fl) = 1
    · rw [fol_done c]; exact h
    · have c0 : X.1 (sit nd fl) = 0 := by omega
      obtain ⟨g1, g2⟩ := chI_mk (op := op) hB hI n0 n1 f0 f1 hs c0 hp
      have g3 := chJ_mk (pa := pa) (op := op) hB h hI.1.1 f0 f1 hs
      by_cases d : cSK S nd = 0
      · rw [fol_line c0 d]
        have hl := kd_lt (S := S) (v := nd) (by rw [sk_line d]; decide)
        have hB1 := hB.1
        obtain ⟨⟨⟨r1, r2⟩, r3⟩, r4, r5⟩ := cn_rng hB (fl := fl) (v := nd + 1) (by omega) (by omega) f0 f1
        exact ih g1 g3 r1 r2 r3 r4 r5 (hp.elim Or.inl (fun z => Or.inr ⟨z.1, Int.lt_of_lt_of_le z.2 g2⟩))
      · rw [fol_stop c0 d]; exact g3
theorem chJ_fo {S : SC} {B : FN} (hB : rScr B S) {X : CH} {fl v pa op : Int} (hI : chI S X) (h : chJ S X) (v0 : 0 ≤ v) (v1 : v ≤ 30) (f0 : 0 ≤ fl) (f1 : fl ≤ 63) (hp : pa = -11 ∨ (0 ≤ pa ∧ pa < X.2.1)) : chJ S (fo S X fl v pa op) := by
  obtain ⟨⟨⟨r1, r2⟩, r3⟩, r4, r5⟩ := cn_rng hB v0 v1 f0 f1
  exact chJ_fol hB 1985 hI h r1 r2 r3 r4 r5 hp
theorem chJ_inn {S : SC} {B : FN} (hB : rScr B S) {X : CH} {i nd fl : Int} (h : chI S X) (hJ : chJ S X) (i0 : 0 ≤ i) (i1 : i < X.2.1) (hk : cSK S nd = 1) (f0 : 0 ≤ fl) (f1 : fl ≤ 63) : ∀ j : Nat, chJ S (inn S X i nd fl j) := by
  intro j
  induction j with
  | zero => exact hJ
  | succ j ih =>
    have hI := chI_inn hB h i0 i1 hk f0 f1 j
    by_cases c : cOpen S nd j fl
    · rw [show inn S X i nd fl (j + 1) = _ from pif_t c]
      have hk6 := sk_choice hk
      have hl := kd_lt (S := S) (v := nd) (by rw [hk6]; decide)
      have r := ((hB.2 nd hl.1 hl.2.1).r6 hk6).2.2 j c.1 c.2.1
      obtain ⟨-, -, r3, -⟩ := r
      exact chJ_fo hB hI.1 ih r3.1 (Int.le_trans r3.2 (by decide)) f0 f1 (Or.inr ⟨i0, Int.lt_of_lt_of_le i1 hI.2.1⟩)
    · rw [show inn S X i nd fl (j + 1) = _ from pif_f c]; exact ih
theorem chJ_out {S : SC} {B : FN} (hB : rScr B S) : ∀ i : Nat, chJ S (outc S i) := by
  intro i
  induction i with
  | zero => exact chJ_fo hB (chI_0 S) (chJ_0 S) (Int.le_refl 0) (by decide) (Int.le_refl 0) (by decide) (Or.inl rfl)
  | succ i ih =>
    by_cases c : (i : Int) < (outc S i).2.1
    · rw [show outc S (i + 1) = _ from if_pos c]
      obtain ⟨q1, q2, q3, -⟩ := (chI_out hB i).2.2.1 i (by omega) c
      exact chJ_inn hB (chI_out hB i) ih (by omega) c q3 (by omega) (by omega) 4
    · rw [show outc S (i + 1) = _ from if_neg c]; exact ih
/-- the situations of a node, counted over all -/
def cntW (R : FN) (v : Int) : Nat → Int
  | 0 => 0
  | n + 1 => if R n ≠ 0 ∧ (v = -1 ∨ (n : Int) / 64 = v) then cntW R v n + 1 else cntW R v n
theorem cntW_all {R : FN} : ∀ n : Nat, cntW R (-1) n = cntN R n := by
  intro n
  induction n with
  | zero => rfl
  | succ n ih =>
    show (if R n ≠ 0 ∧ ((-1 : Int) = -1 ∨ (n : Int) / 64 = -1) then cntW R (-1) n + 1 else cntW R (-1) n) = (if R n = 0 then cntN R n else cntN R n + 1)
    by_cases c : R n = 0
    · rw [if_neg (fun z => z.1 c), if_pos c, ih]
    · rw [if_pos ⟨c, Or.inl rfl⟩, if_neg c, ih]
theorem cntW_le {R : FN} {v : Int} : ∀ n : Nat, 0 ≤ cntW R v n ∧ cntW R v n ≤ n := by
  intro n
  induction n with
  | zero => exact ⟨Int.le_refl _, Int.le_refl _⟩
  | succ n ih =>
    have e : cntW R v (n + 1) = if R n ≠ 0 ∧ (v = -1 ∨ (n : Int) / 64 = v) then cntW R v n + 1 else cntW R v n := rfl
    rw [e]
    split <;> omega
theorem cntW_one {R : FN} {v : Int} (h0 : 0 ≤ v) : ∀ n : Nat, cntW R v n = cntN (fun f => R (64 * v + f)) (if (n : Int) ≤ 64 * v then 0 else if (n : Int) ≤ 64 * v + 64 then ((n : Int) - 64 * v).toNat else 64) := by
  intro n
  induction n with
  | zero => rw [if_pos (by omega)]; rfl
  | succ n ih =>
    show (if R n ≠ 0 ∧ (v = -1 ∨ (n : Int) / 64 = v) then cntW R v n + 1 else cntW R v n) = _
    rw [ih]
    by_cases a : ((n + 1 : Nat) : Int) ≤ 64 * v
    · have z1 : ¬ (R n ≠ 0 ∧ (v = -1 ∨ (n : Int) / 64 = v)) := fun z => by have := z.2; omega
      rw [if_pos a, if_neg z1, if_pos (show (n : Int) ≤ 64 * v by omega)]
    · rw [if_neg a]
      by_cases b : ((n + 1 : Nat) : Int) ≤ 64 * v + 64
      · rw [if_pos b]
        obtain ⟨t, ht⟩ : ∃ t : Nat, (n : Int) = 64 * v + t := ⟨((n : Int) - 64 * v).toNat, by omega⟩
        have e1 : (((n + 1 : Nat) : Int) - 64 * v).toNat = t + 1 := by omega
        have e2 : (if (n : Int) ≤ 64 * v then 0 else if (n : Int) ≤ 64 * v + 64 then ((n : Int) - 64 * v).toNat else 64) = t := by
          by_cases c : (n : Int) ≤ 64 * v
          · rw [if_pos c]; omega
          · rw [if_neg c, if_pos (by omega)]; omega
        rw [e1, e2]
        show _ = (if R (64 * v + (t : Int)) = 0 then _ else _)
        rw [← ht]
        by_cases c : R n = 0
        · rw [if_neg (fun z => z.1 c), if_pos c]
        · rw [if_pos ⟨c, Or.inr (by omega)⟩, if_neg c]
      · have z1 : ¬ (R n ≠ 0 ∧ (v = -1 ∨ (n : Int) / 64 = v)) := fun z => by have := z.2; omega
        rw [if_neg b, if_neg z1]
        by_cases c : (n : Int) ≤ 64 * v + 64
        · rw [if_neg (by omega), if_pos c]; congr 1; omega
        · rw [if_neg (by omega), if_neg c]
