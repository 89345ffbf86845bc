/-! ===== the chart: what holds of it, kept ===== -/
theorem cDo_frng {S : SC} {B : FN} {v : Int} {m : MO} (hB : rScr B S) (h0 : 0 ≤ v) (h : ¬ cShown S v) (f0 : 0 ≤ m.2.1) (f1 : m.2.1 ≤ 63) : 0 ≤ (cDo S m v).1.2.1 ∧ (cDo S m v).1.2.1 ≤ 63 := by
  obtain ⟨h1, h2, h3⟩ := not_shown hB h0 h
  have g := hB.2 v h0 h1
  have hp : ∀ (m : MO) (p v f : Int), (putM m p v f).2.1 = m.2.1 := fun m p v f => by
    unfold putM; split <;> rfl
  rcases (by omega : cKind S v = 1 ∨ cKind S v = 2 ∨ cKind S v = 3 ∨ cKind S v = 4 ∨ cKind S v = 5) with z | z | z | z | z
  · rw [cDo1 z]; show 0 ≤ (putM _ _ _ _).2.1 ∧ (putM _ _ _ _).2.1 ≤ 63; rw [hp]; exact ⟨f0, f1⟩
  · rw [cDo2 z]; exact ⟨f0, f1⟩
  · rw [cDo3 z]
    have r := g.r3 z
    show 0 ≤ (if cNum S v 1 = 1 then _ else _) ∧ (if cNum S v 1 = 1 then _ else _) ≤ (63 : Int)
    by_cases c : cNum S v 1 = 1
    · rw [if_pos c]; exact flOr f0 f1 r.1.1 r.1.2
    · rw [if_neg c]; exact flAnd f0 f1 r.1.1 r.1.2
  · rw [cDo4 z]; exact ⟨f0, f1⟩
  · rw [cDo5 z]; exact ⟨f0, f1⟩
theorem cIt_frng {S : SC} {B : FN} (hB : rScr B S) : ∀ (n : Nat) (m : MO) (v : Int), 0 ≤ v → v ≤ 30 → 0 ≤ m.2.1 → m.2.1 ≤ 63 → 0 ≤ (cIt S n (m, v)).1.2.1 ∧ (cIt S n (m, v)).1.2.1 ≤ 63 := by
  intro n
  induction n with
  | zero => intro m v _ _ f0 f1; exact ⟨f0, f1⟩
  | succ n ih =>
    intro m v h0 h1 f0 f1
    by_cases c : cShown S v
    · rw [show cIt S (n + 1) (m, v) = _ from pif_t c]; exact ⟨f0, f1⟩
    · rw [show cIt S (n + 1) (m, v) = _ from pif_f c]
      have r := cDo_rng (m := m) hB h0 c
      have q := cDo_frng (m := m) hB h0 c f0 f1
      exact ih _ _ r.1 (Int.le_trans r.2 (by decide)) q.1 q.2
theorem cn_rng {S : SC} {B : FN} (hB : rScr B S) {fl v : Int} (h0 : 0 ≤ v) (h1 : v ≤ 30) (f0 : 0 ≤ fl) (f1 : fl ≤ 63) : ((0 ≤ cn S fl v ∧ cn S fl v ≤ 30) ∧ cShown S (cn S fl v)) ∧ 0 ≤ cfl S fl v ∧ cfl S fl v ≤ 63 :=
  ⟨cCome_rng hB (m0 fl) h0 h1, cIt_frng hB 60 (m0 fl) v h0 h1 f0 f1⟩
/-- what is found stays -/
def chM (X X' : CH) : Prop := X.2.1 ≤ X'.2.1 ∧ ∀ k : Int, 0 ≤ k → k < X.2.1 → X'.2.2.1 k = X.2.2.1 k
theorem chM.rfl {X : CH} : chM X X := ⟨Int.le_refl _, fun _ _ _ => Eq.refl _⟩
theorem chM.trans {X Y Z : CH} (a : chM X Y) (b : chM Y Z) : chM X Z := ⟨Int.le_trans a.1 b.1, fun k k0 k1 => (b.2 k k0 (Int.lt_of_lt_of_le k1 a.1)).trans (a.2 k k0 k1)⟩
theorem chM_mk {S : SC} {X : CH} {nd fl pa op : Int} : chM X (mk S X nd fl pa op) := by
  unfold mk
  by_cases k1 : cSK S nd = 1
  · rw [if_pos k1]
    exact ⟨by show X.2.1 ≤ X.2.1 + 1; omega, fun k _ t1 => fs_off (by omega)⟩
  · rw [if_neg k1]
    (repeat' split) <;> exact ⟨Int.le_refl _, fun _ _ _ => rfl⟩
theorem chI_fol {S : SC} {B : FN} (hB : rScr B S) {pa op : Int} : ∀ (k : Nat) {X : CH} {nd fl : Int}, chI S X → 0 ≤ nd → nd ≤ 30 → cShown S nd → 0 ≤ fl → fl ≤ 63 → (pa = -11 ∨ (0 ≤ pa ∧ pa < X.2.1)) → chI S (fol S k X nd fl pa op) ∧ chM X (fol S k X nd fl pa op) := by
  intro k
  induction k with
  | zero => intro X nd fl h _ _ _ _ _ _; exact ⟨h, chM.rfl⟩
  | succ k ih =>
    intro X nd fl h n0 n1 hs f0 f1 hp
    have hst : 0 ≤ sit nd fl ∧ sit nd fl < 1984 := by unfold sit; omega
    have hr := h.2.1 _ hst.1 hst.2
    by_cases c : X.1 (sit nd fl) = 1
    · rw [fol_done c]; exact ⟨h, chM.rfl⟩
    · have c0 : X.1 (sit nd fl) = 0 := by omega
      obtain ⟨g1, g2⟩ := chI_mk (op := op) hB h n0 n1 f0 f1 hs c0 hp
      by_cases d : cSK S nd = 0
      · rw [fol_line c0 d]
        have hl := kd_lt (S := S) (v := nd) (by rw [sk_line d]; decide)
        have hB1 := hB.1
        obtain ⟨⟨⟨r1, r2⟩, r3⟩, r4, r5⟩ := cn_rng hB (fl := fl) (v := nd + 1) (by omega) (by omega) f0 f1
        have q := ih g1 r1 r2 r3 r4 r5 (hp.elim Or.inl (fun z => Or.inr ⟨z.1, Int.lt_of_lt_of_le z.2 g2⟩))
        exact ⟨q.1, chM_mk.trans q.2⟩
      · rw [fol_stop c0 d]; exact ⟨g1, chM_mk⟩
theorem chI_fo {S : SC} {B : FN} (hB : rScr B S) {X : CH} {fl v pa op : Int} (h : chI S X) (v0 : 0 ≤ v) (v1 : v ≤ 30) (f0 : 0 ≤ fl) (f1 : fl ≤ 63) (hp : pa = -11 ∨ (0 ≤ pa ∧ pa < X.2.1)) : chI S (fo S X fl v pa op) ∧ chM X (fo S X fl v pa op) := by
  obtain ⟨⟨⟨r1, r2⟩, r3⟩, r4, r5⟩ := cn_rng hB v0 v1 f0 f1
  exact chI_fol hB 1985 h r1 r2 r3 r4 r5 hp
theorem chI_inn {S : SC} {B : FN} (hB : rScr B S) {X : CH} {i nd fl : Int} (h : chI S X) (i0 : 0 ≤ i) (i1 : i < X.2.1) (hk : cSK S nd = 1) (f0 : 0 ≤ fl) (f1 : fl ≤ 63) : ∀ j : Nat, chI S (inn S X i nd fl j) ∧ chM X (inn S X i nd fl j) := by
  intro j
  induction j with
  | zero => exact ⟨h, chM.rfl⟩
  | succ j ih =>
    by_cases c : cOpen S nd j fl
    · rw [show inn S X i nd fl (j + 1) = _ from pif_t c]
      have hk6 := sk_choice hk
      have hl := kd_lt (S := S) (v := nd) (by rw [hk6]; decide)
      have r := ((hB.2 nd hl.1 hl.2.1).r6 hk6).2.2 j c.1 c.2.1
      obtain ⟨-, -, r3, -⟩ := r
      obtain ⟨a, b⟩ := chI_fo hB (op := j) ih.1 r3.1 (Int.le_trans r3.2 (by decide)) f0 f1 (Or.inr ⟨i0, Int.lt_of_lt_of_le i1 ih.2.1⟩)
      exact ⟨a, ih.2.trans b⟩
    · rw [show inn S X i nd fl (j + 1) = _ from pif_f c]; exact ih
theorem chI_ch0 {S : SC} {B : FN} (hB : rScr B S) : chI S (ch0 S) := (chI_fo hB (chI_0 S) (Int.le_refl 0) (by decide) (Int.le_refl 0) (by decide) (Or.inl rfl)).1
theorem chI_out {S : SC} {B : FN} (hB : rScr B S) : ∀ i : Nat, chI S (outc S i) := by
  intro i
  induction i with
  | zero => exact chI_ch0 hB
  | succ i ih =>
    by_cases c : (i : Int) < (outc S i).2.1
    · rw [show outc S (i + 1) = _ from if_pos c]
      obtain ⟨q1, q2, q3, -⟩ := ih.2.2.1 i (by omega) c
      exact (chI_inn hB ih (by omega) c q3 (by omega) (by omega) 4).1
    · rw [show outc S (i + 1) = _ from if_neg c]; exact ih
